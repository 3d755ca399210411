/** Promises 8 to 12: what is passed, given, waited, learnt and undone. */
public final class ActsTest {
    private static final Checks CHECKS = new Checks();

    public static void main(String[] args) {
        passByLaw();
        passInHours();
        passRefused();
        give();
        letBy();
        learn();
        undo();
        undoOfFifteen();
        CHECKS.end();
    }

    private static void passByLaw() {
        CHECKS.due("8: as came", Checks.canal("CK0B190B100").pass(), 12);
        CHECKS.due("8: second first", Checks.canal("CK1B100B190").pass(), 21);
        CHECKS.due("8: light first, second lighter", Checks.canal("CK2B110B100").pass(), 21);
        CHECKS.due("8: light first, as heavy", Checks.canal("CK2B110B110").pass(), 12);
        CHECKS.due("8: light first, second heavier", Checks.canal("CK2B110B120").pass(), 12);
        CHECKS.due("8: by tea, none gave", Checks.canal("CK3B101B101").pass(), 12);
        EelLocks x = Checks.canal("CK3B109B109");
        x.give(1, 0);
        CHECKS.due("8: by tea, the second gave", x.pass(), 21);
        x.undo();
        x.give(0, 0);
        CHECKS.due("8: by tea, both gave as much", x.pass(), 12);
        x.undo();
        x.give(0, 0);
        CHECKS.due("8: by tea, the first gave more", x.pass(), 12);
        EelLocks there = Checks.canal("CK3K3B109B109");
        there.give(1, 1);
        CHECKS.due("8: tea given elsewhere", there.pass(), 12);
        CHECKS.due("8: tea given there", there.pass(), 21);
        CHECKS.due("8: two long, none passes", Checks.canal("CK1B200B100").pass(), 12);
        CHECKS.due("8: behind one 2 long", Checks.canal("CK1B100B200").pass(), 12);
        CHECKS.due("8: both 2 long", Checks.canal("CK1B200B200").pass(), 12);
        CHECKS.due("8: pairs from the front on", Checks.canal("CK1B100B100B100").pass(), 213);
        CHECKS.due("8: pairs behind one 2 long", Checks.canal("CK1B200B100B100").pass(), 132);
        CHECKS.due("8: three pairs", Checks.canal("CK1B100B100B100B100B100B100").pass(), 214365);
        CHECKS.due("8: nobody", Checks.canal("CK1").pass(), 0);
        CHECKS.due("8: one", Checks.canal("CK1B100").pass(), 1);
    }

    private static void passInHours() {
        EelLocks x = Checks.canal("CK1K0B100B100B200B100");
        CHECKS.due("8: three chambers", x.pass(), 2134);
        hoursAre(x, 1, 1, 2, 3);
        CHECKS.due("8: one lock is passed", x.count(3), 1);
        CHECKS.due("8: and through the next", x.pass(), 2134);
        hoursAre(x, 2, 2, 3, 4);
        // a late one that goes ahead makes all behind it late
        EelLocks late = Checks.canal("CK0K0B100B200B200");
        late.pass();
        late.letBy(0);
        late.letBy(0);
        CHECKS.due("8: the late ones are ahead", late.pass(), 231);
        hoursAre(late, 5, 3, 4);
        EelLocks pair = Checks.canal("CK0K0B200B100B100B100");
        pair.pass();
        hoursAre(pair, 1, 2, 2, 3);
        pair.letBy(2);
        pair.letBy(0);
        CHECKS.due("8: pairs of other hours", pair.pass(), 2143);
        hoursAre(pair, 4, 3, 5, 5);
        EelLocks mixed = Checks.canal("CK0K0B200B100B100B100");
        mixed.pass();
        mixed.letBy(2);
        CHECKS.due("8: the second one of a pair is late", mixed.pass(), 1243);
        hoursAre(mixed, 2, 4, 5, 4);
    }

    private static void hoursAre(EelLocks x, int... hours) {
        for (int barge = 0; barge < hours.length; barge++) {
            CHECKS.due("8: the hour of " + barge, x.barge(barge, 4), hours[barge]);
        }
    }

    private static void passRefused() {
        CHECKS.due("8: no locks", Checks.canal("CB100").pass(), EelLocks.STATE);
        EelLocks x = Checks.canal("CK1K1B100B100");
        CHECKS.due("8: the first", x.pass(), 21);
        CHECKS.due("8: the second", x.pass(), 12);
        CHECKS.due("8: no third", x.pass(), EelLocks.STATE);
        CHECKS.due("8: refused, the row stays", x.count(4), 12);
        CHECKS.due("8: refused, no act", x.count(7), 2);
        CHECKS.due("8: refused, passed stays", x.count(3), 2);
    }

    private static void give() {
        EelLocks x = Checks.canal("CK3K0B102B101B100");
        CHECKS.due("9: one load", x.give(0, 1), 1);
        CHECKS.due("9: another lock", x.give(0, 0), 1);
        CHECKS.due("9: it has none left", x.give(0, 1), EelLocks.STATE);
        CHECKS.due("9: another barge's load is its own", x.give(1, 1), 1);
        CHECKS.due("9: it never had one", x.give(2, 0), EelLocks.STATE);
        CHECKS.due("9: all gave", x.lock(1, 2), 2);
        CHECKS.due("9: its tea is gone", x.barge(0, 2), 0);
        CHECKS.due("9: tea of all", x.count(5), 0);
        CHECKS.due("9: given at all locks", x.count(6), 3);
        CHECKS.due("9: three acts", x.count(7), 3);
        CHECKS.due("9: no such barge", x.give(3, 0), EelLocks.UNKNOWN);
        CHECKS.due("9: no such barge", x.give(-1, 0), EelLocks.UNKNOWN);
        CHECKS.due("9: no such lock", x.give(0, 2), EelLocks.UNKNOWN);
        CHECKS.due("9: no such lock", x.give(0, -1), EelLocks.UNKNOWN);
        CHECKS.due("9: UNKNOWN ahead of STATE", x.give(2, 2), EelLocks.UNKNOWN);

        EelLocks y = Checks.canal("CK3K0B109B109");
        CHECKS.due("9: first load", y.give(0, 0), 1);
        CHECKS.due("9: second load", y.give(0, 0), 2);
        CHECKS.due("9: the other one's first", y.give(1, 0), 1);
        y.pass();
        CHECKS.due("9: passed", y.give(0, 0), EelLocks.STATE);
        CHECKS.due("9: not passed", y.give(0, 1), 1);
        CHECKS.due("9: refused, its tea stays", y.barge(0, 2), 6);
        CHECKS.due("9: what is given at a lock that is passed counts", y.count(6), 4);
    }

    private static void letBy() {
        EelLocks x = Checks.canal("CK0B100B200B100");
        CHECKS.due("10: the first one waits", x.letBy(0), 1);
        CHECKS.due("10: the row", x.count(4), 213);
        CHECKS.due("10: waits again", x.letBy(0), 2);
        CHECKS.due("10: the row", x.count(4), 231);
        CHECKS.due("10: the last one", x.letBy(0), EelLocks.STATE);
        CHECKS.due("10: two acts", x.count(7), 2);
        CHECKS.due("10: no such barge", x.letBy(3), EelLocks.UNKNOWN);
        CHECKS.due("10: no such barge", x.letBy(-1), EelLocks.UNKNOWN);
        x.pass();
        CHECKS.due("10: at the basin, too", x.letBy(1), 1);
        CHECKS.due("10: the row", x.count(4), 321);
        CHECKS.due("10: its hour stays", x.barge(1, 4), 1);
        CHECKS.due("10: the other's hour stays", x.barge(2, 4), 2);
        CHECKS.due("10: one alone is last", Checks.canal("CB100").letBy(0), EelLocks.STATE);
    }

    private static void learn() {
        EelLocks x = Checks.canal("CK3K1B109B109");
        x.give(1, 0);
        CHECKS.due("11: learnt", x.learn(0, 0), 3);
        CHECKS.due("11: its law", x.lock(0, 0), 0);
        CHECKS.due("11: tea given there stays", x.lock(0, 2), 1);
        CHECKS.due("11: it comes out by that law", x.basin(), 21);
        CHECKS.due("11: of that law", x.learn(0, 0), EelLocks.STATE);
        CHECKS.due("11: learnt again", x.learn(0, 3), 0);
        CHECKS.due("11: it comes out by that law", x.basin(), 12);
        CHECKS.due("11: the other's law", x.learn(1, 2), 1);
        CHECKS.due("11: law -1", x.learn(0, -1), EelLocks.OUTSIDE);
        CHECKS.due("11: law 4", x.learn(0, 4), EelLocks.OUTSIDE);
        CHECKS.due("11: no such lock", x.learn(2, 0), EelLocks.UNKNOWN);
        CHECKS.due("11: no such lock", x.learn(-1, 0), EelLocks.UNKNOWN);
        CHECKS.due("11: UNKNOWN ahead of OUTSIDE", x.learn(2, 4), EelLocks.UNKNOWN);
        x.pass();
        CHECKS.due("11: passed", x.learn(0, 1), EelLocks.STATE);
        CHECKS.due("11: OUTSIDE ahead of STATE", x.learn(0, 4), EelLocks.OUTSIDE);
        CHECKS.due("11: refused, its law stays", x.lock(0, 0), 3);
        CHECKS.due("11: acts: three learnt, one given, one passed", x.count(7), 5);
    }

    private static void undo() {
        EelLocks x = Checks.canal("CK1K3B103B203B103");
        x.letBy(0);
        x.letBy(0);
        x.give(0, 1);
        x.learn(1, 2);
        x.pass();
        CHECKS.due("12: the row", x.count(4), 213);
        CHECKS.due("12: undone: passed", x.undo(), 4);
        CHECKS.due("12: passed no more", x.count(3), 0);
        CHECKS.due("12: the row again", x.count(4), 231);
        CHECKS.due("12: the hour again", x.barge(0, 4), 0);
        CHECKS.due("12: undone: learnt", x.undo(), 3);
        CHECKS.due("12: the law again", x.lock(1, 0), 3);
        CHECKS.due("12: undone: given", x.undo(), 2);
        CHECKS.due("12: the tea again", x.barge(0, 2), 3);
        CHECKS.due("12: none given", x.lock(1, 2), 0);
        CHECKS.due("12: undone: waited", x.undo(), 1);
        CHECKS.due("12: the row again", x.count(4), 213);
        CHECKS.due("12: undone: waited", x.undo(), 0);
        CHECKS.due("12: the row at first", x.count(4), 123);
        CHECKS.due("12: there is none", x.undo(), EelLocks.STATE);
        x.letBy(1);
        CHECKS.due("12: undone is forgotten", x.undo(), 0);
        CHECKS.due("12: the row at first", x.count(4), 123);
    }

    private static void undoOfFifteen() {
        for (int more = 0; more <= 16; more++) {
            EelLocks x = Checks.canal("CB100B100");
            for (int i = 0; i < 14 + more; i++) {
                x.letBy(i % 2);
                CHECKS.due("12: acts in the row", x.count(7), Math.min(i + 1, 14));
            }
            for (int left = 13; left >= 0; left--) {
                CHECKS.due("12: undone of " + (14 + more), x.undo(), left);
                CHECKS.due("12: the row then", x.count(4), (left + more) % 2 == 0 ? 12 : 21);
            }
            CHECKS.due("12: the others are forgotten", x.undo(), EelLocks.STATE);
            x.letBy(more % 2);
            CHECKS.due("12: one act behind them", x.count(7), 1);
        }
    }
}
