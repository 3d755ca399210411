/** Promises 26 to 28: a test for each sentence about slots and counts that names a boundary case. */
public final class SlotsEdgesTest {
    private static final Checks CHECKS = new Checks();
    private static final int OUTSIDE = -2, STATE = -3, UNKNOWN = -1;
    private static final int[] NO_SLOTS = {-1, 2, Integer.MIN_VALUE, Integer.MAX_VALUE};

    public static void main(String[] args) {
        keep();
        keepLeavesTheRest();
        again();
        againOfWhat();
        againRefused();
        count();
        countOfGivenAndHours();
        countRefused();
        constants();
        CHECKS.end();
    }

    private static void keep() {
        CHECKS.sentence("26", "They are kept: how many LOCKS are PASSED.");
        CHECKS.due("of a new object", new EelLocks().keep(0), 0);
        CHECKS.due("without locks", Checks.canal("CB100").keep(1), 0);
        EelLocks x = Checks.canal("CK0K0K0K0K0B100");
        for (int passed = 0; passed <= 5; passed++) {
            CHECKS.due("slot 0", x.keep(0), passed);
            CHECKS.due("slot 1", x.keep(1), passed);
            CHECKS.due("slot 0 again", x.again(0), passed);
            CHECKS.due("slot 1 again", x.again(1), passed);
            x.pass();
        }

        CHECKS.sentence("26", "how many LOCKS are PASSED. UNKNOWN.");
        for (int slot : NO_SLOTS) {
            CHECKS.refused("keep(" + slot + ")", Pasts::day, y -> y.keep(slot), UNKNOWN);
            CHECKS.refused("keep(" + slot + ") ahead of acts", Pasts::morning, y -> y.keep(slot), UNKNOWN);
            CHECKS.refused("keep(" + slot + ") of none", EelLocks::new, y -> y.keep(slot), UNKNOWN);
        }

        CHECKS.sentence("26", "SLOTS 0 to 1");
        EelLocks both = Checks.canal("CK1K1B100B100");
        CHECKS.due("the first slot", both.keep(0), 0);
        both.pass();
        CHECKS.due("the last slot", both.keep(1), 1);
        both.pass();
        CHECKS.due("the first slot is its own", both.again(0), 0);
        CHECKS.due("its row", both.count(4), 12);
        CHECKS.due("the last slot is its own", both.again(1), 1);
        CHECKS.due("its row", both.count(4), 21);
        both.pass();
        CHECKS.due("kept anew", both.keep(0), 2);
        CHECKS.due("the other one stays", both.again(1), 1);
        CHECKS.due("as it was kept last", both.again(0), 2);
    }

    private static void keepLeavesTheRest() {
        CHECKS.sentence("26", "They are kept");
        CHECKS.changesNothing("as kept once more: keep(0)", Pasts::morning, x -> x.keep(0), 0);
        EelLocks x = Pasts.day();
        CHECKS.due("keep(1)", x.keep(1), 1);
        CHECKS.due("the acts stay", x.count(7), 6);
        CHECKS.due("the row stays", x.count(4), 1234);
        CHECKS.due("the text stays", x.count(0), 11);
        CHECKS.due("the other slot stays", x.again(0), 0);
        EelLocks y = Pasts.day();
        y.keep(1);
        for (int left = 5; left >= 0; left--) {
            CHECKS.due("acts are undone as ever", y.undo(), left);
        }
        CHECKS.due("no load is given", y.count(6), 0);
        CHECKS.due("what is kept is not undone", y.again(1), 1);
        CHECKS.due("all of it", y.count(6), 3);
        CHECKS.due("the seed stays", y.seed(0), 77);
    }

    private static void again() {
        CHECKS.sentence("27", "SLOTS 0 to 1 keep THE ROW, HOURS, LOCKS PASSED, LAWS, TEA");
        EelLocks x = Checks.canal("CK3K1K2B105B116B207B104");
        x.give(1, 0);
        x.give(0, 2);
        x.pass();
        x.learn(2, 3);
        CHECKS.due("keep(0)", x.keep(0), 1);
        x.give(3, 1);
        x.give(0, 2);
        x.learn(1, 0);
        x.learn(2, 0);
        x.letBy(0);
        x.pass();
        x.pass();
        CHECKS.due("locks passed", x.again(0), 1);
        CHECKS.due("locks passed", x.count(3), 1);
        CHECKS.due("not lock 1", x.lock(1, 1), 0);
        CHECKS.due("the row", x.count(4), 2134);
        int[] hours = {1, 1, 2, 3};
        int[] tea = {4, 5, 7, 4};
        for (int barge = 0; barge < 4; barge++) {
            CHECKS.due("the hour of " + barge, x.barge(barge, 4), hours[barge]);
            CHECKS.due("the tea of " + barge, x.barge(barge, 2), tea[barge]);
        }
        int[] laws = {3, 1, 3};
        int[] given = {1, 0, 1};
        for (int lock = 0; lock < 3; lock++) {
            CHECKS.due("the law of " + lock, x.lock(lock, 0), laws[lock]);
            CHECKS.due("tea given at " + lock, x.lock(lock, 2), given[lock]);
        }
        CHECKS.due("given by that one", x.give(0, 2), 2);

        CHECKS.sentence("27", "They are as they were kept: how many LOCKS are PASSED.");
        x.pass();
        CHECKS.due("once more", x.again(0), 1);
        CHECKS.due("going on did not change what is kept", x.count(4), 2134);
        CHECKS.due("nor what was given", x.count(6), 2);
        CHECKS.due("again at once", x.again(0), 1);

        CHECKS.sentence("27", "(THE ROW of ACTS is empty when one goes on)");
        CHECKS.due("count(7)", x.count(7), 0);
        CHECKS.due("undo()", x.undo(), STATE);
        CHECKS.due("gone on", x.letBy(0), 2);
        CHECKS.due("one act", x.count(7), 1);
        CHECKS.due("undo()", x.undo(), 0);
        CHECKS.due("to what was kept", x.count(4), 2134);
        EelLocks full = Pasts.fullOfActs();
        CHECKS.due("again(1)", full.again(1), 0);
        CHECKS.due("all 14 are gone", full.undo(), STATE);
        CHECKS.due("the row at first", full.count(4), 123);
    }

    private static void againOfWhat() {
        CHECKS.sentence("27", "They are as they were kept");
        EelLocks x = Pasts.day();
        x.write('K');
        CHECKS.due("again(0)", x.again(0), 0);
        CHECKS.due("the text is not kept", x.count(0), 12);
        CHECKS.due("the seed is not kept", x.seed(3), 77);
        CHECKS.due("the other slot stays", x.again(1), 1);
        CHECKS.due("its own law", x.lock(3, 0), 1);
        CHECKS.due("the seed stays", x.seed(0), 3);

        EelLocks none = new EelLocks();
        CHECKS.due("a new object is kept, too", none.keep(1), 0);
        CHECKS.due("and gone on from", none.again(1), 0);
        CHECKS.due("nothing", none.count(4), 0);
    }

    private static void againRefused() {
        CHECKS.sentence("27", "how many LOCKS are PASSED. UNKNOWN; STATE");
        for (int slot : NO_SLOTS) {
            CHECKS.refused("again(" + slot + ")", Pasts::day, y -> y.again(slot), UNKNOWN);
            CHECKS.refused("again(" + slot + "), acts are 14", Pasts::fullOfActs, y -> y.again(slot), UNKNOWN);
            CHECKS.refused("again(" + slot + ") of none", EelLocks::new, y -> y.again(slot), UNKNOWN);
        }

        CHECKS.sentence("27", "STATE: none were kept.");
        CHECKS.refused("again(0) of a new object", EelLocks::new, y -> y.again(0), STATE);
        CHECKS.refused("again(1) of a new object", EelLocks::new, y -> y.again(1), STATE);
        CHECKS.refused("again(1), but 0 was", Pasts::morning, y -> y.again(1), STATE);
        CHECKS.refused("again(0), but 1 was", Pasts::fullOfActs, y -> y.again(0), STATE);
        for (int slot = 0; slot <= 1; slot++) {
            int asked = slot;
            CHECKS.refused("again(" + slot + "), gone with the canal", () -> {
                EelLocks y = Pasts.day();
                y.canal();
                y.letBy(0);
                return y;
            }, y -> y.again(asked), STATE);
        }
    }

    private static void count() {
        CHECKS.sentence("28", "0 letters of THE TEXT");
        EelLocks text = new EelLocks();
        for (int length = 0; length <= 40; length++) {
            CHECKS.due("count(0)", text.count(0), length);
            text.write('C');
        }
        CHECKS.due("count(0) when it is full", text.count(0), 40);

        CHECKS.sentence("28", "1 LOCKS, 2 BARGES");
        StringBuilder parts = new StringBuilder("C");
        for (int locks = 0; locks <= 5; locks++) {
            CHECKS.due("count(1)", Checks.canal(parts.toString()).count(1), locks);
            CHECKS.due("count(2)", Checks.canal(parts.toString()).count(2), 0);
            parts.append("K0");
        }
        parts.setLength(11);
        for (int barges = 0; barges <= 6; barges++) {
            CHECKS.due("count(1)", Checks.canal(parts.toString()).count(1), 5);
            CHECKS.due("count(2)", Checks.canal(parts.toString()).count(2), barges);
            parts.append("B100");
        }

        CHECKS.sentence("28", "3 LOCKS PASSED, 4 THE ROW (as figures)");
        EelLocks x = Checks.canal("CK1K1K1K1K1B100B100B200B100B100B100");
        int[] rows = {123456, 213546, 123456, 213546, 123456, 213546};
        for (int passed = 0; passed <= 5; passed++) {
            CHECKS.due("count(3)", x.count(3), passed);
            CHECKS.due("count(4)", x.count(4), rows[passed]);
            x.pass();
        }
        CHECKS.due("of nobody", Checks.canal("CK0").count(4), 0);
        CHECKS.due("of one", Checks.canal("CB100").count(4), 1);

        CHECKS.sentence("28", "7 ACTS in the row");
        EelLocks acts = Checks.canal("CB100B100");
        for (int i = 0; i <= 15; i++) {
            CHECKS.due("count(7)", acts.count(7), Math.min(i, 14));
            acts.letBy(i % 2);
        }
        acts.letBy(9);
        CHECKS.due("what is refused is no act", acts.count(7), 14);
        acts.undo();
        CHECKS.due("what is undone is none", acts.count(7), 13);
    }

    private static void countOfGivenAndHours() {
        CHECKS.sentence("28", "5 TEA of all, 6 TEA GIVEN at all LOCKS");
        EelLocks x = Checks.canal("CK3K3K3K3K3B109B109B109B109B109B109");
        CHECKS.due("all of it", x.count(5), 54);
        CHECKS.due("none of it", x.count(6), 0);
        for (int i = 1; i <= 54; i++) {
            x.give(i % 6, i % 5);
            CHECKS.due("what is left", x.count(5), 54 - i);
            CHECKS.due("what is given", x.count(6), i);
        }
        for (int lock = 0; lock < 5; lock++) {
            x.pass();
            CHECKS.due("at those that are passed, too", x.count(6), 54);
        }

        CHECKS.sentence("28", "8 the greatest HOUR AT THE BASIN");
        CHECKS.due("of nobody", Checks.canal("CK0").count(8), 0);
        CHECKS.due("without locks", Checks.canal("CB100").count(8), 0);
        CHECKS.due("of one", Checks.canal("CK0B100").count(8), 1);
        EelLocks y = Checks.canal("CK0K0K0K0K0B200B200B200B200B200B200");
        CHECKS.due("of six", y.count(8), 10);
        for (int passed = 1; passed <= 5; passed++) {
            y.pass();
            CHECKS.due("passed " + passed, y.count(8), 6 * passed + (5 - passed));
            letLastByAll(y);
            CHECKS.due("the latest one is ahead", y.count(8), passed == 5 ? 30 : 6 * passed + 6 + (4 - passed));
        }
        CHECKS.due("not that of the first one, nor of the last", y.barge(y.count(4) % 10 - 1, 4), 29);
    }

    /** The last one of six goes ahead of all. */
    private static void letLastByAll(EelLocks x) {
        for (int place = 4; place >= 0; place--) {
            for (int barge = 0; barge < 6; barge++) {
                if (x.barge(barge, 3) == place) {
                    x.letBy(barge);
                    break;
                }
            }
        }
    }

    private static void countRefused() {
        CHECKS.sentence("28", "8 the greatest HOUR AT THE BASIN. OUTSIDE.");
        int[] outside = {-1, 9, Integer.MIN_VALUE, Integer.MAX_VALUE};
        for (int what : outside) {
            CHECKS.refused("count(" + what + ")", Pasts::day, x -> x.count(what), OUTSIDE);
            CHECKS.refused("count(" + what + ") of none", EelLocks::new, x -> x.count(what), OUTSIDE);
        }

        CHECKS.sentence("28", "What is refused changes nothing.");
        int[] counts = {11, 4, 4, 1, 1234, 12, 3, 6, 6};
        for (int what = 0; what <= 8; what++) {
            int asked = what;
            CHECKS.changesNothing("nor what is answered: count(" + what + ")", Pasts::day,
                    x -> x.count(asked), counts[what]);
        }
    }

    private static void constants() {
        CHECKS.sentence("28", "UNKNOWN = -1, OUTSIDE = -2, STATE = -3, FULL = -4, NONE = -9");
        CHECKS.due("UNKNOWN", EelLocks.UNKNOWN, -1);
        CHECKS.due("OUTSIDE", EelLocks.OUTSIDE, -2);
        CHECKS.due("STATE", EelLocks.STATE, -3);
        CHECKS.due("FULL", EelLocks.FULL, -4);
        CHECKS.due("NONE", EelLocks.NONE, -9);
    }
}
