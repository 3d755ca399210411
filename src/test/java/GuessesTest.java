import java.math.BigInteger;

/** Promises 21 to 25: who gave, rests, chances. */
public final class GuessesTest {
    private static final Checks CHECKS = new Checks();

    public static void main(String[] args) {
        gave();
        gaveRefused();
        rests();
        restsRefused();
        asleep();
        asleepRefused();
        seed();
        days();
        daysBySeed();
        nothingIsChanged();
        CHECKS.end();
    }

    private static void gave() {
        int none = EelLocks.NONE;
        EelLocks x = Checks.canal("CK0B109B109");
        gaveAt(x, "they came so", 0, 12, 3, 0, 0);
        gaveAt(x, "the second gave", 0, 21, 1, 2, 1);
        x.give(0, 0);
        gaveAt(x, "the first gave before", 0, 12, 4, 0, 0);
        gaveAt(x, "the second cannot give two", 0, 21, 0, none, none);
        x.give(1, 0);
        x.give(1, 0);
        gaveAt(x, "the second gave more before", 0, 21, 3, 0, 0);
        gaveAt(x, "the first gave then", 0, 12, 1, 1, 2);
        EelLocks three = Checks.canal("CK1B100B100B100");
        gaveAt(three, "without tea, too", 0, 213, 2, 2, 1);
        gaveAt(three, "never so", 0, 231, 0, none, none);
        EelLocks two = Checks.canal("CK1K0K3B100B100");
        gaveAt(two, "by the law of the lock ahead", 1, 21, 3, 0, 0);
        gaveAt(two, "by the law of the lock ahead", 1, 12, 1, 1, 2);
        gaveAt(two, "by the laws of both ahead", 2, 12, 1, 1, 2);
        gaveAt(two, "ahead of all", 0, 12, 3, 0, 0);
        two.pass();
        gaveAt(two, "from where it is", 1, 21, 3, 0, 0);
        gaveAt(Checks.canal("CK0K1B100B100"), "as it comes out of that lock", 0, 12, 3, 0, 0);
        gaveAt(Checks.canal("CK0"), "nobody", 0, 0, 1, 0, 0);
        gaveAt(Checks.canal("CK2B100"), "one", 0, 1, 2, 0, 0);
        gaveAt(Checks.canal("CK2B200B200B100B100B100B100"), "of six", 0, 124365, 4, 8 + 32, 4 + 16);
    }

    private static void gaveAt(EelLocks x, String what, int lock, int row, int found, int inAll, int inNone) {
        CHECKS.due("21: " + what + ", sets", x.gave(lock, row, 0), found);
        CHECKS.due("21: " + what + ", in all", x.gave(lock, row, 1), inAll);
        CHECKS.due("21: " + what + ", in none", x.gave(lock, row, 2), inNone);
    }

    private static void gaveRefused() {
        EelLocks x = Checks.canal("CK0K0B109B109");
        int[] rows = {0, 1, 2, 11, 22, 13, 31, 10, 20, 123, 112, 102, -12, 99, Integer.MAX_VALUE, Integer.MIN_VALUE};
        for (int row : rows) {
            CHECKS.due("21: row " + row, x.gave(0, row, 0), EelLocks.OUTSIDE);
        }
        CHECKS.due("21: nobody's row", Checks.canal("CK0").gave(0, 1, 0), EelLocks.OUTSIDE);
        CHECKS.due("21: what -1", x.gave(0, 12, -1), EelLocks.OUTSIDE);
        CHECKS.due("21: what 3", x.gave(0, 12, 3), EelLocks.OUTSIDE);
        CHECKS.due("21: no such lock", x.gave(2, 12, 0), EelLocks.UNKNOWN);
        CHECKS.due("21: no such lock", x.gave(-1, 12, 0), EelLocks.UNKNOWN);
        CHECKS.due("21: UNKNOWN ahead of OUTSIDE", x.gave(2, 0, 0), EelLocks.UNKNOWN);
        x.pass();
        CHECKS.due("21: passed", x.gave(0, 12, 0), EelLocks.STATE);
        CHECKS.due("21: OUTSIDE (row) ahead of STATE", x.gave(0, 11, 0), EelLocks.OUTSIDE);
        CHECKS.due("21: OUTSIDE (what) ahead of STATE", x.gave(0, 12, 3), EelLocks.OUTSIDE);
    }

    private static void rests() {
        EelLocks x = Checks.canal("CK3B109B100B109B100");
        restsAt(x, "in one chamber one always gains", 0, 1, 0, 0, EelLocks.NONE);
        restsAt(x, "both are ahead", 0, 2, 0, 1, 0);
        restsAt(x, "both are behind", 1, 3, 0, 1, 11);
        restsAt(x, "the one is behind", 1, 2, 0, 1, 10);
        restsAt(x, "the other is behind", 2, 1, 0, 1, 1);
        x.give(0, 0);
        x.give(0, 0);
        restsAt(x, "three loads are less than a place", 1, 2, 0, 1, 30);
        restsAt(x, "as the other would give three, the one would give one", 0, 1, 0, 0, EelLocks.NONE);
        x.give(0, 0);
        restsAt(x, "four would be needed", 1, 2, 0, 1, 0);
        restsAt(x, "the other cannot gain", 0, 1, 0, 1, 0);
        EelLocks behind = Checks.canal("CK3B109B109B109B109");
        behind.give(2, 0);
        restsAt(behind, "the one by one load, the other by two", 1, 3, 0, 1, 12);
        restsAt(behind, "the other by one load, the one by two", 3, 1, 0, 1, 21);
        behind.give(3, 0);
        behind.give(3, 0);
        restsAt(behind, "it is ahead by what it gave", 1, 3, 0, 1, 10);
        restsAt(behind, "one load for as much, two for more: both would", 2, 3, 0, 0, EelLocks.NONE);
        restsAt(Checks.canal("CK1B100B100"), "tea is for nothing", 0, 1, 0, 1, 0);
        restsAt(Checks.canal("CK3K1B100B100"), "all comes the other way round", 0, 1, 0, 1, 0);
        EelLocks later = Checks.canal("CK0K3B100B100B100B100");
        restsAt(later, "at a later lock", 1, 3, 1, 1, 11);
        restsAt(later, "at one that takes no tea", 1, 3, 0, 1, 0);
        later.pass();
        restsAt(later, "when that is next", 3, 0, 1, 1, 10);
    }

    private static void restsAt(EelLocks x, String what, int one, int other, int lock, int found, int first) {
        CHECKS.due("22: " + what + ", how many", x.rests(one, other, lock, 0), found);
        CHECKS.due("22: " + what + ", the first", x.rests(one, other, lock, 1), first);
    }

    private static void restsRefused() {
        EelLocks x = Checks.canal("CK3K3B109B109");
        CHECKS.due("22: no such one", x.rests(2, 0, 0, 0), EelLocks.UNKNOWN);
        CHECKS.due("22: no such one", x.rests(-1, 0, 0, 0), EelLocks.UNKNOWN);
        CHECKS.due("22: no such other", x.rests(0, 2, 0, 0), EelLocks.UNKNOWN);
        CHECKS.due("22: no such other", x.rests(0, -1, 0, 0), EelLocks.UNKNOWN);
        CHECKS.due("22: no such lock", x.rests(0, 1, 2, 0), EelLocks.UNKNOWN);
        CHECKS.due("22: no such lock", x.rests(0, 1, -1, 0), EelLocks.UNKNOWN);
        CHECKS.due("22: UNKNOWN ahead of OUTSIDE", x.rests(0, 0, 2, 2), EelLocks.UNKNOWN);
        CHECKS.due("22: both are one", x.rests(1, 1, 0, 0), EelLocks.OUTSIDE);
        CHECKS.due("22: what -1", x.rests(0, 1, 0, -1), EelLocks.OUTSIDE);
        CHECKS.due("22: what 2", x.rests(0, 1, 0, 2), EelLocks.OUTSIDE);
        x.pass();
        CHECKS.due("22: passed", x.rests(0, 1, 0, 0), EelLocks.STATE);
        CHECKS.due("22: OUTSIDE (one) ahead of STATE", x.rests(1, 1, 0, 0), EelLocks.OUTSIDE);
        CHECKS.due("22: OUTSIDE (what) ahead of STATE", x.rests(0, 1, 0, 2), EelLocks.OUTSIDE);
        CHECKS.due("22: not passed", x.rests(0, 1, 1, 0), 0);
    }

    private static void asleep() {
        EelLocks x = Checks.canal("CK1B100B100B100");
        asleepAt(x, "none sleeps", 0, 0, 0, 0, 1);
        asleepAt(x, "none sleeps", 0, 1, 0, 1, 1);
        asleepAt(x, "all sleep", 0, 0, 10, 1, 1);
        asleepAt(x, "all sleep", 1, 0, 10, 0, 1);
        asleepAt(x, "half the time", 0, 0, 5, 1, 2);
        asleepAt(x, "three tenths", 0, 0, 3, 3, 10);
        asleepAt(x, "three tenths", 1, 0, 3, 7, 10);
        asleepAt(x, "the last one stays", 2, 2, 3, 1, 1);
        asleepAt(x, "never there", 2, 0, 3, 0, 1);
        EelLocks y = Checks.canal("CK1K1K1K1K1B100B100");
        asleepAt(y, "each by itself", 0, 0, 1, 2101, 6250);
        y.pass();
        y.pass();
        y.pass();
        asleepAt(y, "the two that are left", 1, 0, 3, 29, 50);
        y.pass();
        y.pass();
        asleepAt(y, "no lock is left", 1, 0, 3, 1, 1);
        asleepAt(y, "no lock is left", 0, 0, 3, 0, 1);
        EelLocks z = Checks.canal("CK2K3B111B101B200");
        asleepAt(z, "only the first lock turns", 1, 0, 4, 3, 5);
        z.give(0, 1);
        asleepAt(z, "both may turn", 1, 0, 4, 6, 25);
        asleepAt(z, "both may turn", 1, 1, 4, 19, 25);
    }

    private static void asleepAt(EelLocks x, String what, int barge, int place, int tenths, int above, int below) {
        CHECKS.due("23: " + what + ", above", x.asleep(barge, place, tenths, true), above);
        CHECKS.due("23: " + what + ", below", x.asleep(barge, place, tenths, false), below);
    }

    private static void asleepRefused() {
        EelLocks x = Checks.canal("CK1B100B100");
        CHECKS.due("23: no such barge", x.asleep(2, 0, 5, true), EelLocks.UNKNOWN);
        CHECKS.due("23: no such barge", x.asleep(-1, 0, 5, false), EelLocks.UNKNOWN);
        CHECKS.due("23: UNKNOWN ahead of OUTSIDE", x.asleep(2, 2, 11, true), EelLocks.UNKNOWN);
        CHECKS.due("23: place -1", x.asleep(0, -1, 5, true), EelLocks.OUTSIDE);
        CHECKS.due("23: place 2", x.asleep(0, 2, 5, true), EelLocks.OUTSIDE);
        CHECKS.due("23: place 2, below", x.asleep(0, 2, 5, false), EelLocks.OUTSIDE);
        CHECKS.due("23: x -1", x.asleep(0, 0, -1, true), EelLocks.OUTSIDE);
        CHECKS.due("23: x 11", x.asleep(0, 0, 11, true), EelLocks.OUTSIDE);
        CHECKS.due("23: x 11, below", x.asleep(0, 0, 11, false), EelLocks.OUTSIDE);
    }

    private static void seed() {
        EelLocks x = new EelLocks();
        CHECKS.due("24: 0 at first", x.seed(5), 0);
        CHECKS.due("24: what it was", x.seed(Long.MIN_VALUE), 5);
        CHECKS.due("24: the least", x.seed(Long.MAX_VALUE), Long.MIN_VALUE);
        CHECKS.due("24: the greatest", x.seed(-1), Long.MAX_VALUE);
        CHECKS.due("24: below 0", x.seed(0), -1);
    }

    private static void days() {
        EelLocks x = Checks.canal("CK3B100B100");
        x.seed(9);
        CHECKS.due("25: no such barge", x.days(2, 1), EelLocks.UNKNOWN);
        CHECKS.due("25: no such barge", x.days(-1, 1), EelLocks.UNKNOWN);
        CHECKS.due("25: UNKNOWN ahead of OUTSIDE", x.days(2, 0), EelLocks.UNKNOWN);
        CHECKS.due("25: m 0", x.days(0, 0), EelLocks.OUTSIDE);
        CHECKS.due("25: m -1", x.days(0, -1), EelLocks.OUTSIDE);
        CHECKS.due("25: m 31", x.days(0, 31), EelLocks.OUTSIDE);
        CHECKS.due("25: refused, the seed stays", x.seed(9), 9);
        CHECKS.due("25: nothing turns", Checks.canal("CK0B100B100").days(0, 30), 30);
        CHECKS.due("25: all turn", Checks.canal("CK1B100B100").days(1, 30), 30);
        CHECKS.due("25: never first", Checks.canal("CK3B200B100").days(1, 30), 0);
        EelLocks y = Checks.canal("CK1K3B100B100");
        y.pass();
        y.seed(9);
        EelLocks turned = Checks.canal("CK3B100B100");
        turned.letBy(0);
        turned.seed(9);
        CHECKS.due("25: from where it is", y.days(0, 30), turned.days(0, 30));
    }

    private static void daysBySeed() {
        long[] seeds = {0, 1, 5, -1, Long.MIN_VALUE, 123456789012345L};
        for (long seed : seeds) {
            for (int m = 1; m <= 30; m++) {
                EelLocks x = Checks.canal("CK3B200B100B100K0");
                x.letBy(0);
                x.letBy(0);
                // only barges 1 and 2, ahead of the long one, may turn
                x.seed(seed);
                int often = 0;
                BigInteger now = BigInteger.valueOf(seed);
                for (int day = 0; day < m; day++) {
                    now = next(now);
                    int bits = now.shiftRight(33).mod(BigInteger.valueOf(64)).intValue();
                    often += (bits & 6) == 4 ? 1 : 0;
                }
                CHECKS.due("25: the second of both, seed " + seed + ", m " + m, x.days(2, m), often);
                CHECKS.due("25: the seed then", x.seed(seed), now.longValue());
                CHECKS.due("25: the first of both", x.days(1, m), m - often);
                x.seed(seed);
                CHECKS.due("25: the long one", x.days(0, m), 0);
            }
        }
    }

    private static BigInteger next(BigInteger seed) {
        return seed.multiply(new BigInteger("6364136223846793005")).add(new BigInteger("1442695040888963407"))
                .mod(BigInteger.ONE.shiftLeft(64));
    }

    private static void nothingIsChanged() {
        EelLocks x = Checks.canal("CK0K1K2B109B118B107B200B105");
        x.give(1, 0);
        x.letBy(2);
        x.gave(0, 12435, 0);
        x.gave(2, 12435, 1);
        x.rests(0, 1, 1, 0);
        x.asleep(0, 0, 5, true);
        x.days(0, 30);
        CHECKS.due("21: the row stays", x.count(4), 12435);
        CHECKS.due("21: the law stays", x.lock(0, 0), 0);
        CHECKS.due("22: tea stays", x.count(5), 28);
        CHECKS.due("22: what is given stays", x.count(6), 1);
        CHECKS.due("23: the law stays", x.lock(1, 0), 1);
        CHECKS.due("25: acts stay", x.count(7), 2);
    }
}
