/** Promises 13 to 20: a test for each sentence about the basin that names a boundary case. */
public final class BasinEdgesTest {
    private static final Checks CHECKS = new Checks();
    private static final int NONE = -9, OUTSIDE = -2, UNKNOWN = -1;
    private static final int[] NO_BARGES = {-1, 4, 6, Integer.MIN_VALUE, Integer.MAX_VALUE};

    public static void main(String[] args) {
        basin();
        hour();
        gains();
        mates();
        first();
        firstRefused();
        tea();
        teaGiven();
        teaRefused();
        judge();
        judgeRefused();
        share();
        CHECKS.end();
    }

    private static void basin() {
        CHECKS.sentence("13", "THE ROW then, as figures (1 more each; 0: nobody)");
        CHECKS.due("of a new object", new EelLocks().basin(), 0);
        CHECKS.due("of locks alone", Checks.canal("CK1K2").basin(), 0);
        CHECKS.due("of one", Checks.canal("CK1B100").basin(), 1);
        CHECKS.due("of six", Checks.canal("CK0B100B100B100B100B100B100").basin(), 123456);

        CHECKS.sentence("13", "AT THE BASIN all are when all LOCKS that are left are PASSED");
        CHECKS.due("no locks", Checks.canal("CB100B100").basin(), 12);
        EelLocks x = Checks.canal("CK0K0K0K0K1B100B100");
        EelLocks y = Checks.canal("CK1K0K0K0K0B100B100");
        for (int passed = 0; passed <= 5; passed++) {
            CHECKS.due(passed + " passed, the last one turns them", x.basin(), 21);
            CHECKS.due(passed + " passed, the first one turns them", y.basin(), 21);
            x.pass();
            y.pass();
        }
        x.letBy(1);
        CHECKS.due("none is left, the row as it is", x.basin(), 12);

        CHECKS.sentence("13", "In what follows nothing is changed.");
        CHECKS.changesNothing("basin()", Pasts::day, EelLocks::basin, 2134);
        CHECKS.changesNothing("basin()", Pasts::evening, EelLocks::basin, 2134);
    }

    private static void hour() {
        CHECKS.sentence("14", "The HOUR of a BARGE AT THE BASIN.");
        CHECKS.due("no locks", Checks.canal("CB100").hour(0), 0);
        EelLocks x = Checks.canal("CK0K0K0K0K0B200B200B200B200B200B200");
        for (int passed = 0; passed <= 5; passed++) {
            CHECKS.due(passed + " passed, the first one", x.hour(0), 5);
            CHECKS.due(passed + " passed, the last one", x.hour(5), 10);
            x.pass();
        }
        CHECKS.due("none is left, the hour as it is", x.hour(5), x.barge(5, 4));

        CHECKS.sentence("14", "AT THE BASIN. UNKNOWN.");
        for (int barge : NO_BARGES) {
            CHECKS.refused("hour(" + barge + ")", Pasts::day, y -> y.hour(barge), UNKNOWN);
        }
        CHECKS.refused("hour(6) of 6", Pasts::most, y -> y.hour(6), UNKNOWN);
        CHECKS.refused("hour(0) of none", EelLocks::new, y -> y.hour(0), UNKNOWN);

        CHECKS.sentence("14", "In what follows nothing is changed.");
        CHECKS.changesNothing("hour(0)", Pasts::day, y -> y.hour(0), 4);
        CHECKS.changesNothing("hour(3)", Pasts::day, y -> y.hour(3), 6);
        CHECKS.changesNothing("hour(3)", Pasts::evening, y -> y.hour(3), 6);
    }

    private static void gains() {
        CHECKS.sentence("15", "GAINS: LOCKS (bits) in which a BARGE comes farther to the front");
        EelLocks first = Checks.canal("CK1K0K0K0K0B100B100B100B200");
        CHECKS.due("the first lock", first.gains(1), 1);
        CHECKS.due("one that comes farther back", first.gains(0), 0);
        CHECKS.due("one alone", first.gains(2), 0);
        CHECKS.due("one 2 long", first.gains(3), 0);
        CHECKS.due("the last lock", Checks.canal("CK0K0K0K0K1B100B100").gains(1), 16);
        EelLocks all = Checks.canal("CK1K1K1K1K1B100B100");
        CHECKS.due("the most", all.gains(1), 1 + 4 + 16);
        CHECKS.due("the others", all.gains(0), 2 + 8);
        EelLocks behind = Checks.canal("CK1B100B100B100B100B100B100");
        CHECKS.due("far behind", behind.gains(5), 1);
        CHECKS.due("far behind, farther back", behind.gains(4), 0);

        CHECKS.sentence("15", "AT THE BASIN all are when all LOCKS that are left are PASSED");
        CHECKS.due("no locks", Checks.canal("CB100B100").gains(1), 0);
        int[] left = {21, 20, 20, 16, 16, 0};
        for (int passed = 0; passed <= 5; passed++) {
            CHECKS.due(passed + " passed", all.gains(1), left[passed]);
            all.pass();
        }

        CHECKS.sentence("15", "GAINS, as bits. UNKNOWN.");
        for (int barge : NO_BARGES) {
            CHECKS.refused("gains(" + barge + ")", Pasts::day, y -> y.gains(barge), UNKNOWN);
        }
        CHECKS.refused("gains(6) of 6", Pasts::most, y -> y.gains(6), UNKNOWN);
        CHECKS.refused("gains(0) of none", EelLocks::new, y -> y.gains(0), UNKNOWN);

        CHECKS.sentence("15", "In what follows nothing is changed.");
        CHECKS.changesNothing("gains(0)", Pasts::day, y -> y.gains(0), 4);
        CHECKS.changesNothing("gains(1)", Pasts::day, y -> y.gains(1), 2 + 8);
        CHECKS.changesNothing("gains(1)", Pasts::evening, y -> y.gains(1), 0);
    }

    private static void mates() {
        CHECKS.sentence("16", "MATES: those (bits) with which it is in one chamber somewhere.");
        EelLocks x = Checks.canal("CK0B100B200B200B200B200B100");
        CHECKS.due("with none", x.mates(0), 0);
        for (int i = 0; i < 4; i++) {
            x.letBy(0);
        }
        CHECKS.due("with the last by number", x.mates(0), 32);
        CHECKS.due("with the first by number", x.mates(5), 1);
        CHECKS.due("2 long, with none", x.mates(1), 0);
        EelLocks last = Checks.canal("CK1K0K1K0K1B100B100B100");
        CHECKS.due("one mate at five locks", last.mates(0), 2);
        CHECKS.due("the last of three, with none", last.mates(2), 0);
        last.pass();
        last.pass();
        last.pass();
        last.pass();
        CHECKS.due("at the last lock", last.mates(1), 1);

        CHECKS.sentence("16", "AT THE BASIN all are when all LOCKS that are left are PASSED");
        last.pass();
        CHECKS.due("no lock is left", last.mates(1), 0);
        CHECKS.due("no locks", Checks.canal("CB100B100").mates(1), 0);

        CHECKS.sentence("16", "MATES, as bits. UNKNOWN.");
        for (int barge : NO_BARGES) {
            CHECKS.refused("mates(" + barge + ")", Pasts::day, y -> y.mates(barge), UNKNOWN);
        }
        CHECKS.refused("mates(6) of 6", Pasts::most, y -> y.mates(6), UNKNOWN);
        CHECKS.refused("mates(0) of none", EelLocks::new, y -> y.mates(0), UNKNOWN);

        CHECKS.sentence("16", "In what follows nothing is changed.");
        CHECKS.changesNothing("mates(0)", Pasts::day, y -> y.mates(0), 2);
        CHECKS.changesNothing("mates(2)", Pasts::day, y -> y.mates(2), 0);
        CHECKS.changesNothing("mates(0)", Pasts::evening, y -> y.mates(0), 0);
    }

    private static void first() {
        CHECKS.sentence("17", "of all orders in which THE ROW might be now the first (as figures)");
        EelLocks x = Checks.canal("CB100B200B100");
        CHECKS.due("the first order of three", x.first(0, 1), 123);
        CHECKS.due("the second one", x.first(0, 2), 132);
        CHECKS.due("the last order of three", x.first(2, 1), 321);
        CHECKS.due("the first order of six", Checks.canal("CK0B100B100B100B100B100B100").first(0, 4), 123456);
        CHECKS.due("the first one that the last one leads", Checks.canal("CB100B100B100B100B100B200").first(5, 4), 612354);
        x.letBy(0);
        x.letBy(0);
        CHECKS.due("whatever it is now", x.first(0, 1), 123);
        CHECKS.due("whatever it is now", x.first(2, 1), 321);

        CHECKS.sentence("17", "by which the one is first AT THE BASIN");
        CHECKS.due("it must be the second", Checks.canal("CK1B100B100B100").first(0, 1), 213);
        EelLocks y = Checks.canal("CK1K1K0B100B100B100");
        y.pass();
        CHECKS.due("by the locks that are left", y.first(0, 1), 213);
        y.pass();
        CHECKS.due("by one that changes nothing", y.first(0, 1), 123);
        y.pass();
        CHECKS.due("without locks", y.first(0, 1), 123);
        EelLocks tea = Checks.canal("CK3B102B100B200");
        CHECKS.due("while no tea is given", tea.first(1, 0), 213);
        tea.give(0, 0);
        CHECKS.due("by the tea that is given", tea.first(1, 0), NONE);
        tea.learn(0, 0);
        CHECKS.due("by the laws as they are", tea.first(1, 0), 213);

        CHECKS.sentence("17", "and the other one not the last");
        CHECKS.due("of two", Checks.canal("CB100B100").first(0, 1), NONE);
        CHECKS.due("of two", Checks.canal("CK1B100B100").first(1, 0), NONE);
        CHECKS.due("of three", Checks.canal("CK0B100B100B100").first(0, 2), 132);
        CHECKS.due("it may be the second", Checks.canal("CK0B100B100B100").first(1, 0), 213);
        CHECKS.due("it may be the second of six", Checks.canal("CK0B100B100B100B100B100B100").first(1, 5), 213465);

        CHECKS.sentence("17", "and the other one not the last; NONE.");
        CHECKS.due("the one is never first", Checks.canal("CK2B120B110B110").first(0, 1), NONE);
        CHECKS.due("the one is first, but then the other is last", Checks.canal("CK2B120B110B210").first(0, 1), NONE);
        CHECKS.due("and not, if the other is another", Checks.canal("CK2B120B110B210").first(0, 2), 132);

        CHECKS.sentence("17", "In what follows nothing is changed.");
        CHECKS.changesNothing("first(0, 3)", Pasts::day, z -> z.first(0, 3), 1423);
        CHECKS.changesNothing("first(0, 3)", Pasts::evening, z -> z.first(0, 3), 1243);
    }

    private static void firstRefused() {
        CHECKS.sentence("17", "UNKNOWN: both; OUTSIDE: both are one.");
        for (int barge : NO_BARGES) {
            CHECKS.refused("first(" + barge + ", 0)", Pasts::day, y -> y.first(barge, 0), UNKNOWN);
            CHECKS.refused("first(0, " + barge + ")", Pasts::day, y -> y.first(0, barge), UNKNOWN);
        }
        CHECKS.refused("first(6, 5) of 6", Pasts::most, y -> y.first(6, 5), UNKNOWN);
        CHECKS.refused("first(5, 6) of 6", Pasts::most, y -> y.first(5, 6), UNKNOWN);
        CHECKS.refused("first(0, 1) of none", EelLocks::new, y -> y.first(0, 1), UNKNOWN);

        CHECKS.sentence("17", "OUTSIDE: both are one.");
        CHECKS.refused("first(0, 0)", Pasts::day, y -> y.first(0, 0), OUTSIDE);
        CHECKS.refused("first(3, 3)", Pasts::day, y -> y.first(3, 3), OUTSIDE);
        CHECKS.refused("first(0, 0) of one", () -> Checks.canal("CB100"), y -> y.first(0, 0), OUTSIDE);

        CHECKS.sentence("17", "of several the first that a call names");
        CHECKS.due("first(4, 4)", Pasts.day().first(4, 4), UNKNOWN);
        CHECKS.due("first(-1, -1)", Pasts.day().first(-1, -1), UNKNOWN);
    }

    private static void teaOf(String what, EelLocks x, int one, int other, int howMany, int row) {
        CHECKS.due(what + ", how many", x.tea(one, other, false), howMany);
        CHECKS.due(what + ", the row", x.tea(one, other, true), row);
    }

    /** Barges 5 and 4 at the front, 5 ahead; all others are 2 long, and only the last lock is by tea. */
    private static EelLocks lastTwoAhead() {
        EelLocks x = Checks.canal("CK0K0K0K0K3B200B200B200B200B109B109");
        for (int barge = 3; barge >= 0; barge--) {
            x.letBy(barge);
            x.letBy(barge);
        }
        return x;
    }

    private static void tea() {
        CHECKS.sentence("18", "the fewest loads that are GIVEN now (0 to 2");
        EelLocks x = Checks.canal("CK3B109B109B200");
        teaOf("none is needed", x, 0, 1, 0, 1);
        teaOf("one is needed", x, 1, 0, 1, 110);
        x.give(0, 0);
        teaOf("two are needed", x, 1, 0, 2, 11010);
        x.give(0, 0);
        teaOf("three would be needed", x, 1, 0, NONE, NONE);
        x.give(1, 0);
        teaOf("one was given before", x, 1, 0, 2, 11010);
        x.give(1, 0);
        teaOf("as much was given before", x, 1, 0, 1, 110);
        x.give(1, 0);
        teaOf("more was given before", x, 1, 0, 0, 1);

        CHECKS.sentence("18", "by which that is so");
        teaOf("of two one is the last", Checks.canal("CK3B109B109"), 0, 1, NONE, NONE);
        teaOf("of two one is the last", Checks.canal("CK3B109B109"), 1, 0, NONE, NONE);
        teaOf("the other one stays the last", Checks.canal("CK3B109B109B209"), 0, 2, NONE, NONE);
        teaOf("the other one is the last but for its load", Checks.canal("CK3B109B109B109B109"), 0, 3, 1, 130);
        teaOf("both by one load each", Checks.canal("CK3B109B109B109B109"), 1, 3, 2, 11030);

        CHECKS.sentence("18", "the first such row (as figures behind a 1: BARGE, LOCK each, one behind the other; 1: none");
        EelLocks least = Checks.canal("CK3B109B109B200");
        least.letBy(0);
        teaOf("no load", least, 1, 0, 0, 1);
        teaOf("the least figures", least, 0, 1, 1, 100);
        least.give(1, 0);
        teaOf("the least figures of two", least, 0, 1, 2, 10000);
        EelLocks most = lastTwoAhead();
        CHECKS.due("the row", most.count(4), 561234);
        teaOf("the greatest figures", most, 5, 4, 1, 154);
        most.give(4, 4);
        teaOf("the greatest figures of two", most, 5, 4, 2, 15454);
        teaOf("no load of six", most, 4, 5, 0, 1);

        CHECKS.sentence("18", "the least as a number");
        teaOf("at the first of two locks", Checks.canal("CK3K3B109B109B200"), 1, 0, 1, 110);
        teaOf("at the first that is by tea", Checks.canal("CK0K3B109B109B200"), 1, 0, 1, 111);
        teaOf("the smaller barge first", Checks.canal("CK3K3B109B109B109B109"), 1, 3, 2, 11030);
        EelLocks two = Checks.canal("CK3K3B109B109B200");
        two.give(0, 0);
        two.give(0, 1);
        teaOf("two at the second lock, as at the first they gain nothing", two, 1, 0, 2, 11111);
        two.learn(1, 0);
        teaOf("two at the first lock", two, 1, 0, 2, 11010);
    }

    private static void teaGiven() {
        CHECKS.sentence("18", "by any BARGES that have some");
        teaOf("it has none", Checks.canal("CK3B109B100B200"), 1, 0, NONE, NONE);
        teaOf("it has one", Checks.canal("CK3B109B101B200"), 1, 0, 1, 110);
        EelLocks one = Checks.canal("CK3B109B101B200");
        one.give(0, 0);
        teaOf("it has one of two", one, 1, 0, NONE, NONE);
        EelLocks last = lastTwoAhead();
        last.give(4, 4);
        for (int loads = 0; loads < 8; loads++) {
            last.give(5, 0);
        }
        teaOf("the last barge has one of two", last, 5, 4, NONE, NONE);
        EelLocks two = Checks.canal("CK3B109B102B200");
        two.give(0, 0);
        teaOf("it has both", two, 1, 0, 2, 11010);
        EelLocks gone = Checks.canal("CK3K3B109B101B200");
        gone.give(1, 1);
        gone.learn(1, 0);
        teaOf("it gave its only one", gone, 1, 0, NONE, NONE);
        teaOf("another gives it", Checks.canal("CK3K1B100B101B200"), 0, 1, 1, 110);
        teaOf("another would give it", Checks.canal("CK3K1B109B100B200"), 0, 1, NONE, NONE);
        teaOf("each has one of two", Checks.canal("CK3B100B101B100B101"), 1, 3, 2, 11030);
        teaOf("one has none of two", Checks.canal("CK3B100B101B100B100"), 1, 3, NONE, NONE);
        teaOf("the other has none of two", Checks.canal("CK3B100B100B100B101"), 1, 3, NONE, NONE);

        CHECKS.sentence("18", "to any LOCKS that are not PASSED");
        EelLocks x = Checks.canal("CK3K3K3B109B109B200");
        x.pass();
        teaOf("the next one", x, 1, 0, 1, 111);
        x.pass();
        teaOf("the last one", x, 1, 0, 1, 112);
        x.pass();
        teaOf("none is left", x, 1, 0, NONE, NONE);
        teaOf("none is left, none is needed", x, 0, 1, 0, 1);
        teaOf("no locks", Checks.canal("CB109B109B109"), 1, 0, NONE, NONE);
        teaOf("no locks, none is needed", Checks.canal("CB109B109B109"), 0, 1, 0, 1);

        CHECKS.sentence("18", "In what follows nothing is changed.");
        CHECKS.changesNothing("tea(1, 0, false)", Pasts::day, y -> y.tea(1, 0, false), 0);
        CHECKS.changesNothing("tea(1, 0, true)", Pasts::day, y -> y.tea(1, 0, true), 1);
        CHECKS.changesNothing("tea(0, 3, true)", Pasts::day, y -> y.tea(0, 3, true), NONE);
        CHECKS.changesNothing("tea(5, 4, false)", BasinEdgesTest::lastTwoAhead, y -> y.tea(5, 4, false), 1);
        CHECKS.changesNothing("tea(5, 4, true)", BasinEdgesTest::lastTwoAhead, y -> y.tea(5, 4, true), 154);
    }

    private static void teaRefused() {
        CHECKS.sentence("18", "UNKNOWN: both; OUTSIDE: both are one.");
        for (int barge : NO_BARGES) {
            CHECKS.refused("tea(" + barge + ", 0, true)", Pasts::day, y -> y.tea(barge, 0, true), UNKNOWN);
            CHECKS.refused("tea(0, " + barge + ", true)", Pasts::day, y -> y.tea(0, barge, true), UNKNOWN);
            CHECKS.refused("tea(" + barge + ", 0, false)", Pasts::day, y -> y.tea(barge, 0, false), UNKNOWN);
            CHECKS.refused("tea(0, " + barge + ", false)", Pasts::day, y -> y.tea(0, barge, false), UNKNOWN);
        }
        CHECKS.refused("tea(6, 5, true) of 6", Pasts::most, y -> y.tea(6, 5, true), UNKNOWN);
        CHECKS.refused("tea(5, 6, true) of 6", Pasts::most, y -> y.tea(5, 6, true), UNKNOWN);
        CHECKS.refused("tea(0, 1, false) of none", EelLocks::new, y -> y.tea(0, 1, false), UNKNOWN);

        CHECKS.sentence("18", "OUTSIDE: both are one.");
        CHECKS.refused("tea(0, 0, true)", Pasts::day, y -> y.tea(0, 0, true), OUTSIDE);
        CHECKS.refused("tea(3, 3, false)", Pasts::day, y -> y.tea(3, 3, false), OUTSIDE);

        CHECKS.sentence("18", "of several the first that a call names");
        CHECKS.due("tea(4, 4, true)", Pasts.day().tea(4, 4, true), UNKNOWN);
        CHECKS.due("tea(-1, -1, false)", Pasts.day().tea(-1, -1, false), UNKNOWN);
    }

    private static void judge() {
        CHECKS.sentence("19", "n BARGES (1 to 6) told as figures (1 more each), as they should be AT THE BASIN from the first one on");
        EelLocks six = Checks.canal("CK1B100B100B100B100B100B100");
        CHECKS.due("the least n", six.judge(1, 2), NONE);
        CHECKS.due("the greatest n", six.judge(6, 214365), NONE);
        CHECKS.due("some of them", six.judge(3, 214), NONE);

        CHECKS.sentence("19", "the place of the first that there is not");
        CHECKS.due("figure 0", six.judge(1, 0), 0);
        CHECKS.due("figure 7", six.judge(1, 7), 0);
        CHECKS.due("figure 9", six.judge(6, 214369), 5);
        CHECKS.due("figure 0 in the midst", six.judge(6, 210365), 2);
        CHECKS.due("figure 0 at the end", six.judge(3, 210), 2);
        CHECKS.due("of three the fourth", Checks.canal("CK1B100B100B100").judge(4, 2134), 3);
        CHECKS.due("of three the fourth, 0", Checks.canal("CK1B100B100B100").judge(4, 2130), 3);
        CHECKS.due("of three the third", Checks.canal("CK1B100B100B100").judge(3, 214), 2);
        CHECKS.due("of nobody", new EelLocks().judge(1, 1), 0);
        CHECKS.due("of nobody, 0", new EelLocks().judge(6, 0), 0);
        CHECKS.due("all zeros", six.judge(6, 0), 0);

        CHECKS.sentence("19", "or that is not there; NONE: none.");
        CHECKS.due("the first", six.judge(6, 124365), 0);
        CHECKS.due("the second", six.judge(6, 224365), 1);
        CHECKS.due("the last", six.judge(6, 214366), 5);
        CHECKS.due("none", six.judge(6, 214365), NONE);
        CHECKS.due("the first of several", six.judge(6, 213456), 2);
        CHECKS.due("there, but not at that place", six.judge(2, 14), 0);

        CHECKS.sentence("19", "row (0 or more, n figures at most)");
        CHECKS.due("fewer figures: zeros are ahead", six.judge(6, 21436), 0);
        int most = 9;
        for (int n = 1; n <= 6; n++) {
            CHECKS.due(n + " figures: " + most, six.judge(n, most), 0);
            CHECKS.due(n + " figures: " + (most + 1), six.judge(n, most + 1), OUTSIDE);
            CHECKS.due(n + " figures: 0", six.judge(n, 0), 0);
            CHECKS.due(n + " figures: -1", six.judge(n, -1), OUTSIDE);
            most = 10 * most + 9;
        }

        CHECKS.sentence("19", "In what follows nothing is changed.");
        CHECKS.changesNothing("judge(4, 2134)", Pasts::day, y -> y.judge(4, 2134), NONE);
        CHECKS.changesNothing("judge(4, 2143)", Pasts::day, y -> y.judge(4, 2143), 2);
    }

    private static void judgeRefused() {
        CHECKS.sentence("19", "JUDGED; NONE. OUTSIDE: n, row");
        int[] outside = {-1, 0, 7, Integer.MIN_VALUE, Integer.MAX_VALUE};
        for (int n : outside) {
            CHECKS.refused("judge(" + n + ", 1)", Pasts::day, y -> y.judge(n, 1), OUTSIDE);
            CHECKS.refused("judge(" + n + ", 0)", Pasts::day, y -> y.judge(n, 0), OUTSIDE);
        }
        int[] rows = {-1, -2134, 21341, 10000, Integer.MIN_VALUE, Integer.MAX_VALUE};
        for (int row : rows) {
            CHECKS.refused("judge(4, " + row + ")", Pasts::day, y -> y.judge(4, row), OUTSIDE);
        }
        CHECKS.refused("judge(1, 10)", Pasts::day, y -> y.judge(1, 10), OUTSIDE);
        CHECKS.refused("judge(6, 1000000)", Pasts::day, y -> y.judge(6, 1000000), OUTSIDE);
        CHECKS.refused("judge(0, 0) of none", EelLocks::new, y -> y.judge(0, 0), OUTSIDE);
        CHECKS.refused("judge(1, 10) of none", EelLocks::new, y -> y.judge(1, 10), OUTSIDE);
    }

    private static void shareOf(String what, EelLocks x, int barge, int above, int below) {
        CHECKS.due(what + ", above", x.share(barge, true), above);
        CHECKS.due(what + ", below", x.share(barge, false), below);
    }

    private static void share() {
        CHECKS.sentence("20", "told above (upper = true; below 0, if they are), below (1 and more), in least terms");
        shareOf("no locks", Checks.canal("CB100"), 0, 0, 1);
        shareOf("no locks, six", Checks.canal("CB100B100B100B100B100B100"), 5, 0, 1);
        shareOf("one alone", Checks.canal("CK0B100"), 0, 1, 1);
        shareOf("one alone, five locks", Checks.canal("CK0K1K2K3K0B100"), 0, 5, 1);
        shareOf("two in one chamber", Checks.canal("CK0B100B100"), 0, 1, 2);
        shareOf("two chambers", Checks.canal("CK0B200B200"), 0, 1, 1);
        shareOf("six chambers, five locks", Checks.canal("CK0K1K2K3K0B200B200B200B200B200B200"), 5, 5, 3);
        shareOf("three chambers of six", Checks.canal("CK0B100B100B100B100B100B100"), 0, 1, 2);

        CHECKS.sentence("20", "if BARGES come one by one, in each order as likely");
        shareOf("one 2 long of three", Checks.canal("CK0B100B100B200"), 2, 1, 1);
        shareOf("the other two", Checks.canal("CK0B100B100B200"), 0, 1, 2);
        shareOf("in the midst", Checks.canal("CK0B100B200B100"), 1, 4, 3);
        shareOf("the other two", Checks.canal("CK0B100B200B100"), 0, 5, 6);
        shareOf("two ahead of one 2 long, three behind", Checks.canal("CK0B100B100B200B100B100B100"), 0, 7, 15);
        shareOf("the greatest below", Checks.canal("CK0B100B200B100B100B200B100"), 0, 49, 60);

        CHECKS.sentence("20", "(those that have come are in THE ROW as now; all HOURS 0)");
        EelLocks x = Checks.canal("CK0K0B100B200B100");
        x.pass();
        shareOf("the hours are not as now", x, 1, 4, 3);
        x.letBy(0);
        shareOf("in the row as now", x, 1, 1, 1);
        x.pass();
        shareOf("no lock is left, whatever the hours", x, 1, 0, 1);

        CHECKS.sentence("20", "SHARE. UNKNOWN.");
        for (int barge : NO_BARGES) {
            CHECKS.refused("share(" + barge + ", true)", Pasts::day, y -> y.share(barge, true), UNKNOWN);
            CHECKS.refused("share(" + barge + ", false)", Pasts::day, y -> y.share(barge, false), UNKNOWN);
        }
        CHECKS.refused("share(6, true) of 6", Pasts::most, y -> y.share(6, true), UNKNOWN);
        CHECKS.refused("share(0, false) of none", EelLocks::new, y -> y.share(0, false), UNKNOWN);

        CHECKS.sentence("20", "In what follows nothing is changed.");
        CHECKS.changesNothing("share(3, true)", Pasts::day, y -> y.share(3, true), 4);
        CHECKS.changesNothing("share(3, false)", Pasts::day, y -> y.share(3, false), 3);
        CHECKS.changesNothing("share(3, true)", Pasts::evening, y -> y.share(3, true), 0);
    }
}
