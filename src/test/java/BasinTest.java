/** Promises 13 to 20: who is where when at the basin, and how one may come there. */
public final class BasinTest {
    private static final Checks CHECKS = new Checks();

    public static void main(String[] args) {
        basin();
        hour();
        gains();
        mates();
        first();
        tea();
        teaOfTwoLoads();
        judge();
        share();
        nothingIsChanged();
        CHECKS.end();
    }

    private static void basin() {
        CHECKS.due("13: nobody", Checks.canal("CK1").basin(), 0);
        CHECKS.due("13: no locks", Checks.canal("CB100B200B100").basin(), 123);
        CHECKS.due("13: one lock", Checks.canal("CK1B100B100B100").basin(), 213);
        CHECKS.due("13: two locks", Checks.canal("CK1K1B100B100B100").basin(), 123);
        CHECKS.due("13: each by its law", Checks.canal("CK2K0K2K1B130B120B210B120B130").basin(), 12354);
        EelLocks x = Checks.canal("CK1K1K0B100B100");
        x.pass();
        CHECKS.due("13: what is left", x.basin(), 12);
        x.letBy(1);
        CHECKS.due("13: from the row that is now", x.basin(), 21);
        x.pass();
        x.pass();
        CHECKS.due("13: nothing is left", x.basin(), 21);
        CHECKS.due("13: that is the row", x.count(4), 21);
    }

    private static void hour() {
        EelLocks x = Checks.canal("CK1K0K2B100B100B200B100");
        int[] hours = {3, 3, 4, 5};
        for (int barge = 0; barge < 4; barge++) {
            CHECKS.due("14: hour(" + barge + ")", x.hour(barge), hours[barge]);
        }
        CHECKS.due("14: no such barge", x.hour(4), EelLocks.UNKNOWN);
        CHECKS.due("14: no such barge", x.hour(-1), EelLocks.UNKNOWN);
        x.pass();
        CHECKS.due("14: the same on the way", x.hour(3), 5);
        x.letBy(0);
        x.letBy(0);
        CHECKS.due("14: barge 1, alone ahead of one 2 long", x.hour(1), 3);
        CHECKS.due("14: barge 2, behind it", x.hour(2), 4);
        CHECKS.due("14: barge 0, with the last", x.hour(0), 5);
        CHECKS.due("14: no locks", Checks.canal("CB100").hour(0), 0);
    }

    private static void gains() {
        EelLocks x = Checks.canal("CK1K1K1K1K1B100B100B100");
        CHECKS.due("15: every second lock", x.gains(0), 2 + 8);
        CHECKS.due("15: the others", x.gains(1), 1 + 4 + 16);
        CHECKS.due("15: nowhere", x.gains(2), 0);
        x.pass();
        CHECKS.due("15: not where it is passed", x.gains(1), 4 + 16);
        CHECKS.due("15: bits are of all locks", x.gains(0), 2 + 8);
        CHECKS.due("15: no such barge", x.gains(3), EelLocks.UNKNOWN);
        CHECKS.due("15: no such barge", x.gains(-1), EelLocks.UNKNOWN);
        CHECKS.due("15: no locks", Checks.canal("CB100").gains(0), 0);
        CHECKS.due("15: by the law", Checks.canal("CK0K2B110B100").gains(1), 2);
    }

    private static void mates() {
        EelLocks x = Checks.canal("CK1K0B100B100B100B200B100B100");
        int[] mates = {2, 1, 0, 0, 32, 16};
        for (int barge = 0; barge < 6; barge++) {
            CHECKS.due("16: mates(" + barge + ")", x.mates(barge), mates[barge]);
        }
        x.letBy(1);
        CHECKS.due("16: another mate", x.mates(0), 4);
        CHECKS.due("16: none now", x.mates(1), 0);
        CHECKS.due("16: no such barge", x.mates(6), EelLocks.UNKNOWN);
        CHECKS.due("16: no such barge", x.mates(-1), EelLocks.UNKNOWN);
        x.pass();
        CHECKS.due("16: at the lock that is left", x.mates(0), 4);
        x.pass();
        CHECKS.due("16: no lock is left", x.mates(0), 0);
    }

    private static void first() {
        int none = EelLocks.NONE;
        EelLocks x = Checks.canal("CK1B100B100B100");
        CHECKS.due("17: first(0, 1)", x.first(0, 1), 213);
        CHECKS.due("17: first(0, 2)", x.first(0, 2), 312);
        CHECKS.due("17: first(1, 0)", x.first(1, 0), 123);
        CHECKS.due("17: first(2, 1)", x.first(2, 1), 231);
        x.letBy(0);
        x.letBy(0);
        CHECKS.due("17: as the row might be, not as it is", x.first(0, 1), 213);
        CHECKS.due("17: of two one is last", Checks.canal("CK0B100B100").first(0, 1), none);
        CHECKS.due("17: never first", Checks.canal("CK2B120B110B110").first(0, 1), none);
        CHECKS.due("17: no locks", Checks.canal("CB100B200B100").first(2, 1), 321);
        CHECKS.due("17: the last order", Checks.canal("CK1B100B200B100").first(2, 1), 321);
        EelLocks six = Checks.canal("CK0B100B100B100B200B200B200");
        CHECKS.due("17: of six", six.first(5, 4), 612354);
        CHECKS.due("17: of six", six.first(0, 5), 123465);
        EelLocks y = Checks.canal("CK3B101B100B200");
        y.give(0, 0);
        CHECKS.due("17: with the tea that is given", y.first(0, 1), 123);
        CHECKS.due("17: it overtakes whoever is ahead", y.first(1, 0), none);
        CHECKS.due("17: no such one", x.first(3, 0), EelLocks.UNKNOWN);
        CHECKS.due("17: no such other", x.first(0, 3), EelLocks.UNKNOWN);
        CHECKS.due("17: no such one", x.first(-1, 0), EelLocks.UNKNOWN);
        CHECKS.due("17: no such other", x.first(0, -1), EelLocks.UNKNOWN);
        CHECKS.due("17: UNKNOWN ahead of OUTSIDE", x.first(3, 3), EelLocks.UNKNOWN);
        CHECKS.due("17: both are one", x.first(2, 2), EelLocks.OUTSIDE);
    }

    private static void tea() {
        EelLocks x = Checks.canal("CK3K3B101B109B200");
        teaOf(x, "none is needed", 0, 1, 0, 1);
        teaOf(x, "one load", 1, 0, 1, 110);
        teaOf(x, "the last one stays", 0, 2, EelLocks.NONE, EelLocks.NONE);
        x.pass();
        teaOf(x, "not where it is passed", 1, 0, 1, 111);
        x.give(0, 1);
        teaOf(x, "one load is not enough", 1, 0, 2, 11111);
        x.pass();
        teaOf(x, "no lock is left", 1, 0, EelLocks.NONE, EelLocks.NONE);
        teaOf(x, "no lock is left, none is needed", 0, 1, 0, 1);
        teaOf(Checks.canal("CK3B101B100B200"), "it has none", 1, 0, EelLocks.NONE, EelLocks.NONE);
        teaOf(Checks.canal("CK3B100B100B200B100"), "without tea", 0, 1, 0, 1);
        teaOf(Checks.canal("CK3K3B109B109B200"), "the least lock", 1, 0, 1, 110);
        teaOf(Checks.canal("CK3K1B109B109B200"), "the first one lets itself be let by", 0, 1, 1, 110);
        teaOf(Checks.canal("CB109B109B109"), "no locks", 1, 0, EelLocks.NONE, EelLocks.NONE);
        CHECKS.due("18: no such one", x.tea(3, 0, true), EelLocks.UNKNOWN);
        CHECKS.due("18: no such other", x.tea(0, 3, false), EelLocks.UNKNOWN);
        CHECKS.due("18: no such one", x.tea(-1, 0, false), EelLocks.UNKNOWN);
        CHECKS.due("18: no such other", x.tea(0, -1, true), EelLocks.UNKNOWN);
        CHECKS.due("18: UNKNOWN ahead of OUTSIDE", x.tea(3, 3, true), EelLocks.UNKNOWN);
        CHECKS.due("18: both are one", x.tea(1, 1, true), EelLocks.OUTSIDE);
        CHECKS.due("18: both are one", x.tea(1, 1, false), EelLocks.OUTSIDE);
    }

    private static void teaOfTwoLoads() {
        EelLocks x = Checks.canal("CK3B101B102B200");
        x.give(0, 0);
        teaOf(x, "two of one", 1, 0, 2, 11010);
        EelLocks less = Checks.canal("CK3B101B101B200");
        less.give(0, 0);
        teaOf(less, "it has but one", 1, 0, EelLocks.NONE, EelLocks.NONE);
        EelLocks zeros = Checks.canal("CK3B102B101B200");
        zeros.letBy(0);
        teaOf(zeros, "barge 0 at lock 0", 0, 1, 1, 100);
        zeros.give(1, 0);
        teaOf(zeros, "barge 0 at lock 0 twice", 0, 1, 2, 10000);
        EelLocks three = Checks.canal("CK3B102B109B200");
        three.give(0, 0);
        three.give(0, 0);
        teaOf(three, "three would be needed", 1, 0, EelLocks.NONE, EelLocks.NONE);
        teaOf(Checks.canal("CK3B101B101B101B101"), "one each", 1, 3, 2, 11030);
        teaOf(Checks.canal("CK0K3B201B100B100B100B101"), "one is enough", 0, 4, 1, 141);
        teaOf(Checks.canal("CK3K3B101B101B101B101"), "the least as a number", 1, 3, 2, 11030);
    }

    private static void teaOf(EelLocks x, String what, int one, int other, int howMany, int row) {
        CHECKS.due("18: " + what + ", how many", x.tea(one, other, false), howMany);
        CHECKS.due("18: " + what + ", the row", x.tea(one, other, true), row);
    }

    private static void judge() {
        int none = EelLocks.NONE;
        EelLocks x = Checks.canal("CK1B100B100B100");
        CHECKS.due("19: all", x.judge(3, 213), none);
        CHECKS.due("19: the first", x.judge(1, 2), none);
        CHECKS.due("19: the first two", x.judge(2, 21), none);
        CHECKS.due("19: place 0", x.judge(3, 123), 0);
        CHECKS.due("19: place 1", x.judge(3, 231), 1);
        CHECKS.due("19: place 2", x.judge(3, 212), 2);
        CHECKS.due("19: there is no barge 9", x.judge(3, 219), 2);
        CHECKS.due("19: figure 0", x.judge(3, 210), 2);
        CHECKS.due("19: figure 0 ahead", x.judge(3, 21), 0);
        CHECKS.due("19: more than there are", x.judge(4, 2131), 3);
        CHECKS.due("19: more than there are, 0", x.judge(6, 213000), 3);
        CHECKS.due("19: row 0", x.judge(6, 0), 0);
        CHECKS.due("19: nobody", Checks.canal("CK1").judge(1, 1), 0);
        CHECKS.due("19: n 0", x.judge(0, 0), EelLocks.OUTSIDE);
        CHECKS.due("19: n 7", x.judge(7, 213), EelLocks.OUTSIDE);
        CHECKS.due("19: n -1", x.judge(-1, 2), EelLocks.OUTSIDE);
        CHECKS.due("19: n far above", x.judge(Integer.MAX_VALUE, 2), EelLocks.OUTSIDE);
        CHECKS.due("19: below 0", x.judge(3, -213), EelLocks.OUTSIDE);
        CHECKS.due("19: below 0", x.judge(1, -1), EelLocks.OUTSIDE);
        CHECKS.due("19: too many figures", x.judge(2, 213), EelLocks.OUTSIDE);
        CHECKS.due("19: too many figures", x.judge(1, 10), EelLocks.OUTSIDE);
        CHECKS.due("19: as many as it takes", x.judge(1, 9), 0);
        CHECKS.due("19: as many as it takes", x.judge(6, 999999), 0);
        CHECKS.due("19: one more", x.judge(6, 1000000), EelLocks.OUTSIDE);
        CHECKS.due("19: far above", x.judge(6, Integer.MAX_VALUE), EelLocks.OUTSIDE);
        CHECKS.due("19: far below", x.judge(6, Integer.MIN_VALUE), EelLocks.OUTSIDE);
    }

    private static void share() {
        shareOf(Checks.canal("CK0B100"), "one", 0, 1, 1);
        shareOf(Checks.canal("CK0K0K0B100"), "three locks", 0, 3, 1);
        shareOf(Checks.canal("CB100B100"), "no locks", 1, 0, 1);
        shareOf(Checks.canal("CK0B100B100"), "two in one chamber", 0, 1, 2);
        shareOf(Checks.canal("CK0B200B200"), "two chambers", 1, 1, 1);
        shareOf(Checks.canal("CK1B100B100B100"), "three", 2, 2, 3);
        shareOf(Checks.canal("CK1K2B100B100B100"), "three, two locks", 0, 1, 1);
        EelLocks x = Checks.canal("CK0K0B100B200B100");
        x.pass();
        shareOf(x, "hours are 0, the long one", 1, 4, 3);
        shareOf(x, "hours are 0, the first", 0, 5, 6);
        shareOf(x, "hours are 0, the last", 2, 5, 6);
        x.letBy(1);
        shareOf(x, "in the row as now, the long one", 1, 1, 1);
        shareOf(x, "in the row as now, the first", 0, 1, 2);
        shareOf(x, "in the row as now, the second", 2, 1, 2);
        shareOf(Checks.canal("CK0K1K2K3K0B100B100B200B100B100B100"), "of six", 2, 11, 6);
        CHECKS.due("20: no such barge", x.share(3, true), EelLocks.UNKNOWN);
        CHECKS.due("20: no such barge", x.share(3, false), EelLocks.UNKNOWN);
        CHECKS.due("20: no such barge", x.share(-1, true), EelLocks.UNKNOWN);
    }

    private static void shareOf(EelLocks x, String what, int barge, int above, int below) {
        CHECKS.due("20: " + what + ", above", x.share(barge, true), above);
        CHECKS.due("20: " + what + ", below", x.share(barge, false), below);
    }

    private static void nothingIsChanged() {
        EelLocks x = Checks.canal("CK3K1K2B109B118B107B200B105");
        x.give(1, 0);
        x.letBy(2);
        x.basin();
        x.hour(0);
        x.gains(1);
        x.mates(1);
        x.first(4, 3);
        x.tea(4, 3, true);
        x.tea(0, 1, true);
        x.judge(5, 12345);
        x.share(2, true);
        CHECKS.due("13: the row stays", x.count(4), 12435);
        CHECKS.due("13: the locks stay", x.count(3), 0);
        CHECKS.due("18: tea stays", x.count(5), 28);
        CHECKS.due("18: what is given stays", x.count(6), 1);
        CHECKS.due("13: acts stay", x.count(7), 2);
        CHECKS.due("14: hours stay", x.barge(0, 4), 0);
        CHECKS.due("13: undone as ever", x.undo(), 1);
        CHECKS.due("13: the row before", x.count(4), 12345);
    }
}
