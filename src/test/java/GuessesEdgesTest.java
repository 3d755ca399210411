/** Promises 21 to 25: a test for each sentence about who gave, rests and chances that names a boundary case. */
public final class GuessesEdgesTest {
    private static final Checks CHECKS = new Checks();
    private static final int NONE = -9, OUTSIDE = -2, STATE = -3, UNKNOWN = -1;
    private static final int LEAST = Integer.MIN_VALUE, GREATEST = Integer.MAX_VALUE;
    private static final int[] NOT_THERE = {-1, 4, 6, LEAST, GREATEST};
    private static final String FIVE_BY_TEA = "K3K3K3K3K3";

    public static void main(String[] args) {
        gave();
        gaveByRow();
        gaveRefused();
        rests();
        restsByLoads();
        restsRefused();
        asleep();
        asleepRefused();
        seed();
        days();
        daysRefused();
        CHECKS.end();
    }

    private static void gaveAt(String what, EelLocks x, int lock, int row, int found, int inAll, int inNone) {
        CHECKS.due(what + ", sets", x.gave(lock, row, 0), found);
        CHECKS.due(what + ", in all", x.gave(lock, row, 1), inAll);
        CHECKS.due(what + ", in none", x.gave(lock, row, 2), inNone);
    }

    private static void gave() {
        CHECKS.sentence("21", "sets of BARGES (bits), each of which gave one load there (besides what is GIVEN)");
        EelLocks x = Checks.canal("CK3B109B109");
        gaveAt("none is given, as they came", x, 0, 12, 3, 0, 0);
        gaveAt("none is given, the other way round", x, 0, 21, 1, 2, 1);
        x.give(0, 0);
        gaveAt("one load ahead, as they came", x, 0, 12, 4, 0, 0);
        gaveAt("one load ahead, the other way round", x, 0, 21, 0, NONE, NONE);
        x.give(1, 0);
        x.give(1, 0);
        gaveAt("one load behind, as they came", x, 0, 12, 1, 1, 2);
        gaveAt("one load behind, the other way round", x, 0, 21, 3, 0, 0);
        x.give(1, 0);
        gaveAt("two loads behind, as they came", x, 0, 12, 0, NONE, NONE);
        gaveAt("two loads behind, the other way round", x, 0, 21, 4, 0, 0);
        gaveAt("without any tea", Checks.canal("CK3B100B100"), 0, 21, 1, 2, 1);

        CHECKS.sentence("21", "if that LOCK is BY TEA, THE ROW comes out of it so");
        for (int law = 0; law <= 3; law++) {
            gaveAt("of law " + law, Checks.canal("CK" + law + "B190B100"), 0, 12, 3, 0, 0);
            gaveAt("of law " + law, Checks.canal("CK" + law + "B190B100"), 0, 21, 1, 2, 1);
        }

        CHECKS.sentence("21", "by THE ROW as it comes out of that (told as figures)");
        EelLocks y = Checks.canal("CK1K0K1K0K1B100B100");
        int[] ways = {3, 1, 1, 3, 3};
        for (int lock = 0; lock < 5; lock++) {
            CHECKS.due("lock " + lock + ", through those ahead of it", y.gave(lock, 12, 0), ways[lock]);
            CHECKS.due("lock " + lock + ", the other row", y.gave(lock, 21, 0), 4 - ways[lock]);
        }
        y.pass();
        CHECKS.due("from where they are", y.gave(1, 21, 0), 3);
        y.pass();
        y.pass();
        y.pass();
        CHECKS.due("the last one, from where they are", y.gave(4, 12, 0), 3);

        CHECKS.sentence("21", "how many; who is in all; in none; NONE (of the latter two): there are none.");
        EelLocks six = Checks.canal("CK0B200B200B200B200B200B200");
        gaveAt("all sets of six", six, 0, 123456, 64, 0, 0);
        gaveAt("no set of six", six, 0, 213456, 0, NONE, NONE);
        gaveAt("one of each pair of six", Checks.canal("CK0B100B100B100B100B100B100"), 0, 214365, 1, 2 + 8 + 32, 1 + 4 + 16);
        gaveAt("one alone", Checks.canal("CK0B100"), 0, 1, 2, 0, 0);
        gaveAt("the last one of three", Checks.canal("CK0B100B100B100"), 0, 213, 2, 2, 1);
        gaveAt("never so", Checks.canal("CK0B100B100B100"), 0, 132, 0, NONE, NONE);
    }

    private static void gaveByRow() {
        CHECKS.sentence("21", "OUTSIDE: row (figures of all BARGES, each once)");
        int[] rows = {0, -1, 123, 12345, 1235, 2340, 1230, 1224, 1111, 11234, 4445, -1234, 9999, LEAST, GREATEST};
        for (int row : rows) {
            CHECKS.refused("gave(1, " + row + ", 0)", Pasts::day, x -> x.gave(1, row, 0), OUTSIDE);
        }
        EelLocks day = Pasts.day();
        CHECKS.due("the least", day.gave(1, 1234, 0), 12);
        CHECKS.due("the greatest", day.gave(1, 4321, 0), 0);
        int[] ofSix = {123455, 123450, 123457, 1234567, 12345, 666666, 654320, 1123456};
        for (int row : ofSix) {
            CHECKS.refused("gave(4, " + row + ", 1) of six", Pasts::most, x -> x.gave(4, row, 1), OUTSIDE);
        }
        CHECKS.due("the least of six", Pasts.most().gave(4, 123456, 0), 0);
        CHECKS.due("the greatest of six", Pasts.most().gave(4, 654321, 0), 0);
        EelLocks one = Checks.canal("CK0B100");
        CHECKS.due("of one: 1", one.gave(0, 1, 0), 2);
        CHECKS.due("of one: 0", one.gave(0, 0, 0), OUTSIDE);
        CHECKS.due("of one: 2", one.gave(0, 2, 0), OUTSIDE);
        CHECKS.due("of one: 11", one.gave(0, 11, 0), OUTSIDE);
        EelLocks none = Checks.canal("CK0");
        gaveAt("of nobody: 0", none, 0, 0, 1, 0, 0);
        CHECKS.due("of nobody: 1", none.gave(0, 1, 0), OUTSIDE);
        CHECKS.due("of nobody: -1", none.gave(0, -1, 0), OUTSIDE);

        CHECKS.sentence("21", "In what follows nothing is changed.");
        CHECKS.changesNothing("gave(1, 2134, 0)", Pasts::day, x -> x.gave(1, 2134, 0), 4);
        CHECKS.changesNothing("gave(1, 2134, 1)", Pasts::day, x -> x.gave(1, 2134, 1), 2);
        CHECKS.changesNothing("gave(1, 2134, 2)", Pasts::day, x -> x.gave(1, 2134, 2), 1);
        CHECKS.changesNothing("gave(3, 4321, 2)", Pasts::day, x -> x.gave(3, 4321, 2), NONE);
    }

    private static void gaveRefused() {
        CHECKS.sentence("21", "UNKNOWN: lock");
        for (int lock : NOT_THERE) {
            CHECKS.refused("gave(" + lock + ", 1234, 0)", Pasts::day, x -> x.gave(lock, 1234, 0), UNKNOWN);
        }
        CHECKS.refused("gave(5, 123456, 0) of 5", Pasts::most, x -> x.gave(5, 123456, 0), UNKNOWN);
        CHECKS.refused("gave(0, 0, 0) of none", EelLocks::new, x -> x.gave(0, 0, 0), UNKNOWN);

        CHECKS.sentence("21", "(figures of all BARGES, each once), what");
        int[] outside = {-1, 3, LEAST, GREATEST};
        for (int what : outside) {
            CHECKS.refused("gave(1, 1234, " + what + ")", Pasts::day, x -> x.gave(1, 1234, what), OUTSIDE);
            CHECKS.due("there are none: " + what, Pasts.day().gave(1, 4321, what), OUTSIDE);
        }

        CHECKS.sentence("21", "STATE: the LOCK is PASSED.");
        for (int what = 0; what <= 2; what++) {
            int asked = what;
            CHECKS.refused("gave(0, 2134, " + what + ")", Pasts::day, x -> x.gave(0, 2134, asked), STATE);
            CHECKS.refused("gave(3, 2134, " + what + "), all are passed", Pasts::evening, x -> x.gave(3, 2134, asked), STATE);
        }
        CHECKS.due("the next one is not", Pasts.day().gave(1, 2134, 0), 4);

        CHECKS.sentence("21", "of several the first that a call names");
        CHECKS.due("no such lock, no row", Pasts.day().gave(4, 0, 0), UNKNOWN);
        CHECKS.due("no such lock, no what", Pasts.day().gave(-1, 1234, 3), UNKNOWN);
        CHECKS.due("no row, passed", Pasts.day().gave(0, 123, 0), OUTSIDE);
        CHECKS.due("no what, passed", Pasts.day().gave(0, 1234, 3), OUTSIDE);
        CHECKS.due("what -1, passed", Pasts.day().gave(0, 1234, -1), OUTSIDE);
    }

    private static void restsAt(String what, EelLocks x, int one, int other, int lock, int found, int first) {
        CHECKS.due(what + ", how many", x.rests(one, other, lock, 0), found);
        CHECKS.due(what + ", the first", x.rests(one, other, lock, 1), first);
    }

    /** Two by tea, of which one gave some loads and the other some. */
    private static EelLocks twoGave(int front, int behind) {
        EelLocks x = Checks.canal("CK3B109B109");
        for (int i = 0; i < front; i++) {
            x.give(0, 0);
        }
        for (int i = 0; i < behind; i++) {
            x.give(1, 0);
        }
        return x;
    }

    /** Two pairs by tea; those at the front of them gave some loads. */
    private static EelLocks pairsGave(int first, int second) {
        EelLocks x = Checks.canal("CK3B109B100B109B100");
        for (int i = 0; i < first; i++) {
            x.give(0, 0);
        }
        for (int i = 0; i < second; i++) {
            x.give(2, 0);
        }
        return x;
    }

    private static void rests() {
        CHECKS.sentence("22", "how many; the first (10 times the one and the other); NONE.");
        restsAt("there is none", twoGave(0, 0), 0, 1, 0, 0, NONE);
        restsAt("the least", twoGave(3, 0), 0, 1, 0, 1, 0);
        for (int first = 0; first <= 3; first++) {
            for (int second = 0; second <= 3; second++) {
                int a = first == 3 ? 0 : first + 1;
                int b = second == 3 ? 0 : second + 1;
                EelLocks x = pairsGave(first, second);
                restsAt("behind " + first + " and " + second, x, 1, 3, 0, 1, 10 * a + b);
                restsAt("behind " + second + " and " + first, x, 3, 1, 0, 1, 10 * b + a);
            }
        }

        CHECKS.sentence("22", "pairs in which neither loses less by another number alone");
        restsAt("the one could gain alone", pairsGave(0, 3), 1, 3, 0, 1, 10);
        restsAt("the other could gain alone", pairsGave(3, 0), 1, 3, 0, 1, 1);
        restsAt("each would outdo the other", twoGave(0, 1), 0, 1, 0, 0, NONE);
        restsAt("each would outdo the other, told the other way", twoGave(0, 1), 1, 0, 0, 0, NONE);

        CHECKS.sentence("22", "each loses 4 for each BARGE that is ahead of it AT THE BASIN, and 1 for each load");
        restsAt("three loads for one place", pairsGave(2, 3), 1, 3, 0, 1, 30);
        restsAt("what it gains is lost at the basin", Checks.canal("CK3K1B109B109"), 0, 1, 0, 1, 0);
        EelLocks twice = Checks.canal("CK3K0B109B109B109B109");
        restsAt("it is kept to the basin", twice, 1, 3, 0, 1, 11);
        restsAt("the last one of the row", twice, 3, 0, 0, 1, 10);
    }

    private static void restsByLoads() {
        CHECKS.sentence("22", "each gives 0 to 3 loads there (as if it had them)");
        restsAt("two ahead: the one behind could give three", twoGave(2, 0), 0, 1, 0, 0, NONE);
        restsAt("three ahead: it would need four", twoGave(3, 0), 0, 1, 0, 1, 0);
        restsAt("three behind: the one in front could give three", twoGave(0, 3), 0, 1, 0, 0, NONE);
        restsAt("four behind: it would need four", twoGave(0, 4), 0, 1, 0, 1, 0);
        EelLocks poor = Checks.canal("CK3B102B100B100B100");
        poor.give(0, 0);
        poor.give(0, 0);
        restsAt("without any tea", poor, 1, 3, 0, 1, 31);

        CHECKS.sentence("22", "RESTS of two BARGES at a LOCK that is not PASSED");
        EelLocks five = Checks.canal("C" + FIVE_BY_TEA + "B100B100B200B100B100");
        for (int lock = 0; lock < 5; lock++) {
            restsAt("the first to go, lock " + lock, five, 1, 4, lock, 1, 11);
            five.pass();
        }
        EelLocks laws = Checks.canal("CK0K1K2K3B109B109B209B109B109");
        for (int lock = 0; lock < 3; lock++) {
            restsAt("tea is for nothing at lock " + lock, laws, 1, 4, lock, 1, 0);
        }
        restsAt("but at the last one by tea, behind", laws, 0, 3, 3, 1, 11);

        CHECKS.sentence("22", "In what follows nothing is changed.");
        CHECKS.changesNothing("rests(0, 1, 1, 0)", Pasts::day, x -> x.rests(0, 1, 1, 0), 1);
        CHECKS.changesNothing("rests(0, 1, 1, 1)", Pasts::day, x -> x.rests(0, 1, 1, 1), 0);
        CHECKS.changesNothing("rests(0, 1, 0, 1)", () -> twoGave(1, 1), x -> x.rests(0, 1, 0, 1), NONE);
    }

    private static void restsRefused() {
        CHECKS.sentence("22", "UNKNOWN: one, other, lock");
        for (int i : NOT_THERE) {
            CHECKS.refused("rests(" + i + ", 0, 1, 0)", Pasts::day, x -> x.rests(i, 0, 1, 0), UNKNOWN);
            CHECKS.refused("rests(0, " + i + ", 1, 0)", Pasts::day, x -> x.rests(0, i, 1, 0), UNKNOWN);
            CHECKS.refused("rests(0, 1, " + i + ", 0)", Pasts::day, x -> x.rests(0, 1, i, 0), UNKNOWN);
        }
        CHECKS.refused("rests(6, 5, 4, 0)", Pasts::most, x -> x.rests(6, 5, 4, 0), UNKNOWN);
        CHECKS.refused("rests(5, 6, 4, 0)", Pasts::most, x -> x.rests(5, 6, 4, 0), UNKNOWN);
        CHECKS.refused("rests(5, 4, 5, 0)", Pasts::most, x -> x.rests(5, 4, 5, 0), UNKNOWN);
        CHECKS.refused("rests(0, 1, 0, 0) of none", EelLocks::new, x -> x.rests(0, 1, 0, 0), UNKNOWN);

        CHECKS.sentence("22", "OUTSIDE: both are one, what");
        CHECKS.refused("rests(0, 0, 1, 0)", Pasts::day, x -> x.rests(0, 0, 1, 0), OUTSIDE);
        CHECKS.refused("rests(3, 3, 3, 1)", Pasts::day, x -> x.rests(3, 3, 3, 1), OUTSIDE);
        int[] outside = {-1, 2, LEAST, GREATEST};
        for (int what : outside) {
            CHECKS.refused("rests(0, 1, 1, " + what + ")", Pasts::day, x -> x.rests(0, 1, 1, what), OUTSIDE);
        }

        CHECKS.sentence("22", "OUTSIDE: both are one, what; STATE: the LOCK is PASSED.");
        for (int what = 0; what <= 1; what++) {
            int asked = what;
            CHECKS.refused("rests(0, 1, 0, " + what + ")", Pasts::day, x -> x.rests(0, 1, 0, asked), STATE);
            CHECKS.refused("rests(0, 1, 3, " + what + "), all are passed", Pasts::evening,
                    x -> x.rests(0, 1, 3, asked), STATE);
        }
        CHECKS.due("the next one is not", Pasts.day().rests(0, 1, 1, 1), 0);

        CHECKS.sentence("22", "of several the first that a call names");
        CHECKS.due("no such barge, both are one", Pasts.day().rests(4, 4, 1, 0), UNKNOWN);
        CHECKS.due("both are one, no such lock", Pasts.day().rests(0, 0, 4, 0), UNKNOWN);
        CHECKS.due("no such lock, no what", Pasts.day().rests(0, 1, 4, 2), UNKNOWN);
        CHECKS.due("both are one, passed", Pasts.day().rests(1, 1, 0, 0), OUTSIDE);
        CHECKS.due("no what, passed", Pasts.day().rests(0, 1, 0, 2), OUTSIDE);
        CHECKS.due("what -1, passed", Pasts.day().rests(0, 1, 0, -1), OUTSIDE);
    }

    private static void asleepAt(String what, EelLocks x, int barge, int place, int tenths, int above, int below) {
        CHECKS.due(what + ", above", x.asleep(barge, place, tenths, true), above);
        CHECKS.due(what + ", below", x.asleep(barge, place, tenths, false), below);
    }

    /** At each of five locks barge 1, which gave there, goes ahead, if the keeper is awake. */
    private static EelLocks fiveAwake() {
        EelLocks x = Checks.canal("C" + FIVE_BY_TEA + "B100B109");
        for (int lock = 0; lock < 5; lock++) {
            x.give(1, lock);
        }
        return x;
    }

    private static void asleep() {
        CHECKS.sentence("23", "ASLEEP by x tenths (0 to 10)");
        EelLocks one = Checks.canal("CK1B100B100");
        asleepAt("never asleep, ahead", one, 1, 0, 0, 1, 1);
        asleepAt("never asleep, behind", one, 0, 0, 0, 0, 1);
        asleepAt("by one tenth", one, 0, 0, 1, 1, 10);
        asleepAt("by five tenths", one, 0, 0, 5, 1, 2);
        asleepAt("by nine tenths", one, 0, 0, 9, 9, 10);
        asleepAt("always asleep, ahead", one, 0, 0, 10, 1, 1);
        asleepAt("always asleep, behind", one, 1, 0, 10, 0, 1);

        CHECKS.sentence("23", "the keeper of each LOCK left, by itself: it lets them out AS they CAME");
        EelLocks five = fiveAwake();
        asleepAt("all five", five, 0, 0, 1, 1, 100000);
        asleepAt("all five, not", five, 1, 0, 1, 99999, 100000);
        asleepAt("all five, mostly", five, 0, 0, 9, 59049, 100000);
        asleepAt("all five, always", five, 0, 0, 10, 1, 1);
        int below = 10000;
        for (int left = 4; left >= 0; left--) {
            five.pass();
            five.letBy(1);
            asleepAt(left + " are left", five, 0, 0, 1, 1, below);
            below /= 10;
        }
        asleepAt("as came", Checks.canal("CK0K0B100B100"), 0, 0, 3, 1, 1);
        asleepAt("no locks", Checks.canal("CB100B100"), 1, 1, 3, 1, 1);
        asleepAt("no locks, not there", Checks.canal("CB100B100"), 1, 0, 3, 0, 1);
        asleepAt("twice", Checks.canal("CK1K1B100B100"), 0, 0, 3, 29, 50);

        CHECKS.sentence("23", "the chance that a BARGE is at place p (from 0) AT THE BASIN");
        EelLocks six = Checks.canal("CK1B100B100B100B100B200B100");
        asleepAt("the first place", six, 0, 0, 3, 3, 10);
        asleepAt("the second place", six, 0, 1, 3, 7, 10);
        asleepAt("the third place", six, 0, 2, 3, 0, 1);
        asleepAt("the last place", six, 5, 5, 3, 1, 1);
        asleepAt("the place ahead of the last", six, 5, 4, 3, 0, 1);

        CHECKS.sentence("23", "below (1 and more), in least terms");
        asleepAt("two tenths", one, 0, 0, 2, 1, 5);
        asleepAt("eight tenths", one, 0, 0, 8, 4, 5);
        asleepAt("six of ten, twice", Checks.canal("CK1K1B100B100"), 0, 0, 4, 13, 25);

        CHECKS.sentence("23", "In what follows nothing is changed.");
        CHECKS.changesNothing("asleep(0, 0, 5, true)", Pasts::day, x -> x.asleep(0, 0, 5, true), 1);
        CHECKS.changesNothing("asleep(0, 0, 5, false)", Pasts::day, x -> x.asleep(0, 0, 5, false), 2);
        CHECKS.changesNothing("asleep(0, 3, 10, true)", Pasts::day, x -> x.asleep(0, 3, 10, true), 0);
    }

    private static void asleepRefused() {
        CHECKS.sentence("23", "ASLEEP. UNKNOWN; OUTSIDE");
        for (int barge : NOT_THERE) {
            CHECKS.refused("asleep(" + barge + ", 0, 5, true)", Pasts::day, x -> x.asleep(barge, 0, 5, true), UNKNOWN);
            CHECKS.refused("asleep(" + barge + ", 0, 5, false)", Pasts::day, x -> x.asleep(barge, 0, 5, false), UNKNOWN);
        }
        CHECKS.refused("asleep(6, 0, 5, true) of 6", Pasts::most, x -> x.asleep(6, 0, 5, true), UNKNOWN);
        CHECKS.refused("asleep(0, 0, 5, true) of none", EelLocks::new, x -> x.asleep(0, 0, 5, true), UNKNOWN);

        CHECKS.sentence("23", "OUTSIDE: place (0 to BARGES less 1), x.");
        int[] places = {-1, 4, 6, LEAST, GREATEST};
        for (int place : places) {
            CHECKS.refused("asleep(0, " + place + ", 5, true)", Pasts::day, x -> x.asleep(0, place, 5, true), OUTSIDE);
            CHECKS.refused("asleep(0, " + place + ", 5, false)", Pasts::day, x -> x.asleep(0, place, 5, false), OUTSIDE);
        }
        CHECKS.refused("asleep(0, 6, 5, true) of 6", Pasts::most, x -> x.asleep(0, 6, 5, true), OUTSIDE);
        CHECKS.refused("asleep(0, 1, 5, true) of 1", () -> Checks.canal("CB100"), x -> x.asleep(0, 1, 5, true), OUTSIDE);
        CHECKS.due("the last place", Pasts.day().asleep(3, 3, 5, true), 1);
        CHECKS.due("the last place of 6", Pasts.most().asleep(4, 5, 10, true), 0);
        int[] tenths = {-1, 11, LEAST, GREATEST};
        for (int x : tenths) {
            CHECKS.refused("asleep(0, 0, " + x + ", true)", Pasts::day, y -> y.asleep(0, 0, x, true), OUTSIDE);
            CHECKS.refused("asleep(0, 0, " + x + ", false)", Pasts::day, y -> y.asleep(0, 0, x, false), OUTSIDE);
        }

        CHECKS.sentence("23", "of several the first that a call names");
        CHECKS.due("no such barge, no place", Pasts.day().asleep(4, 4, 5, true), UNKNOWN);
        CHECKS.due("no such barge, no tenths", Pasts.day().asleep(-1, 0, 11, false), UNKNOWN);
    }

    private static void seed() {
        CHECKS.sentence("24", "THE SEED is v: what it was.");
        EelLocks x = new EelLocks();
        CHECKS.due("at first", x.seed(Long.MIN_VALUE), 0);
        CHECKS.due("the least", x.seed(Long.MAX_VALUE), Long.MIN_VALUE);
        CHECKS.due("the greatest", x.seed(-1), Long.MAX_VALUE);
        CHECKS.due("below 0", x.seed(1L << 32), -1);
        CHECKS.due("beyond an int", x.seed(0), 1L << 32);
        CHECKS.due("0", x.seed(7), 0);
        CHECKS.due("the same again", x.seed(7), 7);
        EelLocks kept = Pasts.morning();
        kept.give(1, 0);
        kept.seed(4);
        CHECKS.due("what was kept stays", kept.again(0), 0);
        CHECKS.due("as it was kept", kept.count(6), 0);

        CHECKS.sentence("24", "THE SEED, a long; 0 at first");
        CHECKS.due("-1 is no refusal", new EelLocks().seed(-1), 0);
        CHECKS.changesNothing("nothing else is changed: seed(77)", Pasts::day, y -> y.seed(77), 77);
    }

    /** THE SEED a number of times on. */
    private static long on(long seed, int times) {
        long now = seed;
        for (int i = 0; i < times; i++) {
            now = now * 6364136223846793005L + 1442695040888963407L;
        }
        return now;
    }

    private static int bits(long seed) {
        return (int) ((seed >>> 33) % 64);
    }

    private static void days() {
        CHECKS.sentence("25", "x times 6364136223846793005 and 1442695040888963407 (64 bits, wrapping)");
        long[] seeds = {0, 1, -1, Long.MIN_VALUE, Long.MAX_VALUE, 77, 1L << 33};
        for (long seed : seeds) {
            for (int m = 1; m <= 30; m++) {
                EelLocks x = Checks.canal("CK1B100");
                x.seed(seed);
                CHECKS.due("seed " + seed + ", " + m + " days", x.days(0, m), m);
                CHECKS.due("the seed then", x.seed(0), on(seed, m));
            }
        }
        CHECKS.due("from 0 once", on(0, 1), 1442695040888963407L);

        CHECKS.sentence("25", "its upper 31 bits by 64, what is left");
        for (int seed = 0; seed < 200; seed++) {
            for (int barge = 0; barge < 6; barge += 2) {
                EelLocks x = inFront(barge);
                x.seed(seed);
                int pair = bits(on(seed, 1)) >> barge & 3;
                CHECKS.due("seed " + seed + ", behind " + barge, x.days(barge + 1, 1), pair == 2 ? 1 : 0);
                x.seed(seed);
                CHECKS.due("seed " + seed + ", ahead, " + barge, x.days(barge, 1), pair == 2 ? 0 : 1);
            }
        }

        CHECKS.sentence("25", "of which each gives one load at each LOCK left (as if it had them)");
        CHECKS.due("without any tea", onDayOf(2, Checks.canal("CK3B100B100"), 1), 1);
        EelLocks behind = Checks.canal("CK3B102B100");
        behind.give(0, 0);
        CHECKS.due("one load is not enough", onDayOf(2, behind, 1), 0);
        EelLocks two = Checks.canal("CK3K3B102B100");
        two.give(0, 0);
        CHECKS.due("at the second lock it is", onDayOf(2, two, 1), 1);
        two.give(0, 1);
        CHECKS.due("at neither it is", onDayOf(2, two, 1), 0);
        EelLocks five = Checks.canal("CK0K0K0K0K3B100B100");
        CHECKS.due("at the last of five", onDayOf(2, five, 1), 1);
        for (int lock = 0; lock < 5; lock++) {
            five.pass();
        }
        CHECKS.due("no lock is left", onDayOf(2, five, 1), 0);
        CHECKS.due("no lock is left, the first one", onDayOf(2, five, 0), 1);

        CHECKS.sentence("25", "those of one time alone");
        EelLocks alone = Checks.canal("CK3B100B100");
        int often = 0;
        for (int day = 1; day <= 30; day++) {
            often += (bits(on(0, day)) & 3) == 2 ? 1 : 0;
        }
        CHECKS.due("thirty days", alone.days(1, 30), often);
        EelLocks byDay = Checks.canal("CK3B100B100");
        int sum = 0;
        for (int day = 1; day <= 30; day++) {
            sum += byDay.days(1, 1);
        }
        CHECKS.due("as thirty times one day", sum, often);

        CHECKS.sentence("25", "(Nothing changes but THE SEED.)");
        CHECKS.changesNothing("days(1, 30)", Pasts::day, x -> thenSeed(x, x.days(1, 30)), 30);
        CHECKS.changesNothing("days(0, 1)", Pasts::evening, x -> thenSeed(x, x.days(0, 1)), 0);
        int notFirst = 0;
        for (int day = 1; day <= 30; day++) {
            notFirst += (bits(on(77, day)) & 3) == 1 ? 1 : 0;
        }
        CHECKS.changesNothing("days(1, 30) by tea", () -> {
            EelLocks x = fiveAwake();
            x.seed(77);
            return x;
        }, x -> thenSeed(x, x.days(1, 30)), 30 - notFirst);
    }

    private static int thenSeed(EelLocks x, int answer) {
        x.seed(77);
        return answer;
    }

    /** Three pairs by tea, of which that of a barge is at the front. */
    private static EelLocks inFront(int barge) {
        EelLocks x = Checks.canal("CK3B100B100B100B100B100B100");
        for (int place = barge; place > 0; place--) {
            x.letBy(place - 1);
            x.letBy(place - 1);
        }
        return x;
    }

    /** Whether a barge is first on a day by whose bits of barges 0 and 1 just those told give. */
    private static int onDayOf(int pair, EelLocks x, int barge) {
        long seed = 0;
        for (int i = 0; i < 1000 && (bits(on(seed, 1)) & 3) != pair; i++) {
            seed++;
        }
        x.seed(seed);
        return x.days(barge, 1);
    }

    private static void daysRefused() {
        CHECKS.sentence("25", "DAYS. UNKNOWN; OUTSIDE: m.");
        for (int barge : NOT_THERE) {
            CHECKS.refused("days(" + barge + ", 1)", Pasts::day, x -> x.days(barge, 1), UNKNOWN);
        }
        CHECKS.refused("days(6, 1) of 6", Pasts::most, x -> x.days(6, 1), UNKNOWN);
        CHECKS.refused("days(0, 1) of none", EelLocks::new, x -> x.days(0, 1), UNKNOWN);

        CHECKS.sentence("25", "DAYS by THE SEED: m times (1 to 30)");
        int[] outside = {-1, 0, 31, LEAST, GREATEST};
        for (int m : outside) {
            CHECKS.refused("days(0, " + m + ")", Pasts::day, x -> x.days(0, m), OUTSIDE);
        }
        CHECKS.due("the least", Pasts.day().days(1, 1), 1);
        CHECKS.due("the most", Pasts.day().days(1, 30), 30);

        CHECKS.sentence("25", "of several the first that a call names");
        CHECKS.due("no such barge, m 0", Pasts.day().days(4, 0), UNKNOWN);
        CHECKS.due("no such barge, m 31", Pasts.day().days(-1, 31), UNKNOWN);
    }
}
