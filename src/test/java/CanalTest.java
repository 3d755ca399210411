/** Promises 1 to 7: the text, its faults, the canal, barges and locks. */
public final class CanalTest {
    private static final Checks CHECKS = new Checks();
    private static final String FIVE_LOCKS = "K0K1K2K3K0";
    private static final String SIX_BARGES = "B100B111B122B233B244B299";

    public static void main(String[] args) {
        aNewObject();
        write();
        wipe();
        fault();
        canal();
        canalMadeAnew();
        noTeaIsLeft();
        barge();
        lock();
        CHECKS.end();
    }

    private static void aNewObject() {
        EelLocks x = new EelLocks();
        for (int what = 0; what <= 8; what++) {
            CHECKS.due("1: new, count(" + what + ")", x.count(what), 0);
        }
        CHECKS.due("1: new, barge(0, 0)", x.barge(0, 0), EelLocks.UNKNOWN);
        CHECKS.due("1: new, lock(0, 0)", x.lock(0, 0), EelLocks.UNKNOWN);
        CHECKS.due("1: new, basin()", x.basin(), 0);
        CHECKS.due("1: new, seed(1)", x.seed(1), 0);
        CHECKS.due("1: new, fault()", x.fault(), 0);
        CHECKS.due("1: new, pass()", x.pass(), EelLocks.STATE);
        CHECKS.due("1: new, undo()", x.undo(), EelLocks.STATE);
        CHECKS.due("1: new, again(0)", x.again(0), EelLocks.STATE);
        CHECKS.due("1: another one is its own", Checks.canal("CK0").count(1) + new EelLocks().count(1), 1);
    }

    private static void write() {
        EelLocks x = new EelLocks();
        CHECKS.due("2: write(-1)", x.write(-1), EelLocks.OUTSIDE);
        CHECKS.due("2: write(256)", x.write(256), EelLocks.OUTSIDE);
        CHECKS.due("2: write(max)", x.write(Integer.MAX_VALUE), EelLocks.OUTSIDE);
        CHECKS.due("2: write(min)", x.write(Integer.MIN_VALUE), EelLocks.OUTSIDE);
        CHECKS.due("2: nothing was written", x.count(0), 0);
        CHECKS.due("2: write(0)", x.write(0), 1);
        CHECKS.due("2: write(255)", x.write(255), 2);
        for (int length = 3; length <= 40; length++) {
            CHECKS.due("2: write to " + length, x.write('C'), length);
        }
        CHECKS.due("2: write the 41st", x.write('C'), EelLocks.FULL);
        CHECKS.due("2: OUTSIDE ahead of FULL", x.write(256), EelLocks.OUTSIDE);
        CHECKS.due("2: still 40", x.count(0), 40);
        x.wipe();
        CHECKS.due("2: write after wipe", x.write('C'), 1);
    }

    private static void wipe() {
        EelLocks x = new EelLocks();
        CHECKS.due("3: wipe of nothing", x.wipe(), 0);
        Checks.tell(x, "CK1B123");
        CHECKS.due("3: canal", x.canal(), 11);
        CHECKS.due("3: wipe", x.wipe(), 7);
        CHECKS.due("3: wipe again", x.wipe(), 0);
        CHECKS.due("3: no letters", x.count(0), 0);
        CHECKS.due("3: fault of nothing", x.fault(), 0);
        CHECKS.due("3: the canal stays, locks", x.count(1), 1);
        CHECKS.due("3: the canal stays, barges", x.count(2), 1);
        Checks.tell(x, "C");
        CHECKS.due("3: what was wiped does not come back", x.canal(), 0);
    }

    private static void fault() {
        int none = EelLocks.NONE;
        faultOf("", 0);
        faultOf("C", none);
        faultOf("X", 0);
        faultOf("c", 0);
        faultOf("K0", 0);
        faultOf("XC", 0);
        faultOf("CC", 1);
        faultOf("C0", 1);
        faultOf("Ck", 1);
        faultOf("Cb", 1);
        faultOf("CX", 1);
        faultOf("CK", 2);
        faultOf("CKK", 2);
        faultOf("CK/", 2);
        faultOf("CK0", none);
        faultOf("CK1", none);
        faultOf("CK2", none);
        faultOf("CK3", none);
        faultOf("CK4", 2);
        faultOf("CK00", 3);
        faultOf("CB", 2);
        faultOf("CB0", 2);
        faultOf("CB3", 2);
        faultOf("CBB", 2);
        faultOf("CB1", 3);
        faultOf("CB2", 3);
        faultOf("CB1/", 3);
        faultOf("CB1:", 3);
        faultOf("CB10", 4);
        faultOf("CB19", 4);
        faultOf("CB10/", 4);
        faultOf("CB10:", 4);
        faultOf("CB1K", 3);
        faultOf("CB10K", 4);
        faultOf("CB100", none);
        faultOf("CB199", none);
        faultOf("CB299", none);
        faultOf("CB1000", 5);
        faultOf("CB100X", 5);
        faultOf("CB100XK0", 5);
        faultOf("CB100K", 6);
        faultOf("CK0B100K3B299", none);
        faultOf("C" + FIVE_LOCKS, none);
        faultOf("C" + FIVE_LOCKS + "K", 11);
        faultOf("C" + FIVE_LOCKS + "K0B", 11);
        faultOf("C" + FIVE_LOCKS + "B", 12);
        faultOf("C" + SIX_BARGES, none);
        faultOf("C" + SIX_BARGES + "B", 25);
        faultOf("C" + SIX_BARGES + "K0K1K", 30);
        faultOf("C" + FIVE_LOCKS + SIX_BARGES, none);
        faultOf("C" + SIX_BARGES + FIVE_LOCKS, none);
        faultOf("C" + SIX_BARGES + FIVE_LOCKS + "K", 35);
        faultOf("C" + SIX_BARGES + FIVE_LOCKS + "B", 35);
        faultOf("C" + SIX_BARGES + FIVE_LOCKS + "CCCCC", 35);
        faultOf("\u00c3", 0);
        faultOf("C\u0000", 1);
    }

    private static void faultOf(String text, int want) {
        EelLocks x = Checks.told(text);
        CHECKS.due("4: fault of " + text, x.fault(), want);
        CHECKS.due("4: fault of " + text + " once more", x.fault(), want);
        CHECKS.due("4: its length is as it was", x.count(0), text.length());
        CHECKS.due("5: is " + text + " a canal", x.canal() == EelLocks.STATE ? 0 : 1, want == EelLocks.NONE ? 1 : 0);
    }

    private static void canal() {
        CHECKS.due("5: C", Checks.told("C").canal(), 0);
        CHECKS.due("5: a lock", Checks.told("CK2").canal(), 10);
        CHECKS.due("5: a barge", Checks.told("CB100").canal(), 1);
        CHECKS.due("5: mixed", Checks.told("CK0B100K1B211B122").canal(), 23);
        CHECKS.due("5: all", Checks.told("C" + FIVE_LOCKS + SIX_BARGES).canal(), 56);

        EelLocks x = Checks.canal("CK1B123B214");
        CHECKS.due("5: the text stays", x.count(0), 11);
        x.write('K');
        x.give(0, 0);
        x.keep(1);
        CHECKS.due("5: only not at its end", x.canal(), EelLocks.STATE);
        CHECKS.due("5: refused, the canal stays", 10 * x.count(1) + x.count(2), 12);
        CHECKS.due("5: refused, what was given stays", x.count(6), 1);
        CHECKS.due("5: refused, acts stay", x.count(7), 1);
        CHECKS.due("5: refused, the slots stay", x.again(1), 0);
        x.write('9');
        CHECKS.due("5: at fault", x.canal(), EelLocks.STATE);
        CHECKS.due("5: refused, the text stays", x.count(0), 13);
    }

    private static void canalMadeAnew() {
        EelLocks x = Checks.canal("CK1K2B123B214B105");
        x.seed(77);
        x.keep(0);
        x.give(2, 1);
        x.learn(1, 3);
        x.letBy(0);
        x.pass();
        CHECKS.due("5: made anew", x.canal(), 23);
        CHECKS.due("5: the row is by number", x.count(4), 123);
        CHECKS.due("5: ahead of lock 0", x.count(3), 0);
        CHECKS.due("5: no tea is given", x.count(6), 0);
        CHECKS.due("5: none at that lock", x.lock(1, 2), 0);
        CHECKS.due("5: tea as told", x.barge(2, 2), 5);
        CHECKS.due("5: law as told", x.lock(1, 0), 2);
        for (int barge = 0; barge < 3; barge++) {
            CHECKS.due("5: hours are 0", x.barge(barge, 4), 0);
        }
        CHECKS.due("5: no acts", x.count(7), 0);
        CHECKS.due("5: none to undo", x.undo(), EelLocks.STATE);
        CHECKS.due("5: what was kept is gone", x.again(0), EelLocks.STATE);
        CHECKS.due("5: the seed stays", x.seed(0), 77);
        Checks.tell(x, "CB200K3");
        CHECKS.due("5: a smaller one", x.canal(), 11);
        CHECKS.due("5: of one barge", x.count(2), 1);
        CHECKS.due("5: its barges", x.barge(1, 0), EelLocks.UNKNOWN);
        CHECKS.due("5: its locks", x.lock(1, 0), EelLocks.UNKNOWN);
        CHECKS.due("5: its row", x.count(4), 1);
        CHECKS.due("5: its tea", x.count(5), 0);
    }

    private static void noTeaIsLeft() {
        EelLocks x = Checks.canal("CK3K3K3K3K3B105B105B105B105B105B105");
        for (int lock = 0; lock < 5; lock++) {
            for (int barge = 0; barge < 6; barge++) {
                x.give(barge, lock);
            }
        }
        CHECKS.due("5: all is given", x.count(6), 30);
        x.canal();
        CHECKS.due("5: none is given", x.count(6), 0);
        CHECKS.due("5: all have theirs", x.count(5), 30);
    }

    private static void barge() {
        EelLocks x = Checks.canal("CB123K1B104B290");
        int[][] told = {{1, 2, 3, 0, 0}, {1, 0, 4, 1, 0}, {2, 9, 0, 2, 0}};
        for (int barge = 0; barge < 3; barge++) {
            for (int what = 0; what < 5; what++) {
                CHECKS.due("6: barge(" + barge + ", " + what + ")", x.barge(barge, what), told[barge][what]);
            }
        }
        x.give(1, 0);
        x.pass();
        CHECKS.due("6: its tea is less", x.barge(1, 2), 3);
        CHECKS.due("6: its place", x.barge(1, 3), 0);
        CHECKS.due("6: its hour", x.barge(1, 4), 1);
        CHECKS.due("6: the place of the first", x.barge(0, 3), 1);
        CHECKS.due("6: the hour of the first", x.barge(0, 4), 1);
        CHECKS.due("6: the hour of the last", x.barge(2, 4), 2);
        CHECKS.due("6: no such barge", x.barge(3, 0), EelLocks.UNKNOWN);
        CHECKS.due("6: no such barge", x.barge(-1, 0), EelLocks.UNKNOWN);
        CHECKS.due("6: UNKNOWN ahead of OUTSIDE", x.barge(6, 9), EelLocks.UNKNOWN);
        CHECKS.due("6: what -1", x.barge(0, -1), EelLocks.OUTSIDE);
        CHECKS.due("6: what 5", x.barge(0, 5), EelLocks.OUTSIDE);
        CHECKS.due("6: far below", x.barge(Integer.MIN_VALUE, 0), EelLocks.UNKNOWN);
        CHECKS.due("6: far above", x.barge(Integer.MAX_VALUE, 0), EelLocks.UNKNOWN);
    }

    private static void lock() {
        EelLocks x = Checks.canal("CK3B109K0B109K2K1");
        int[] laws = {3, 0, 2, 1};
        for (int lock = 0; lock < 4; lock++) {
            CHECKS.due("7: lock(" + lock + ", 0)", x.lock(lock, 0), laws[lock]);
            CHECKS.due("7: lock(" + lock + ", 1)", x.lock(lock, 1), 0);
            CHECKS.due("7: lock(" + lock + ", 2)", x.lock(lock, 2), 0);
        }
        x.give(0, 0);
        x.give(1, 0);
        x.give(1, 0);
        x.give(1, 3);
        x.learn(1, 1);
        x.pass();
        CHECKS.due("7: given by all", x.lock(0, 2), 3);
        CHECKS.due("7: given at the last one", x.lock(3, 2), 1);
        CHECKS.due("7: given at no other", x.lock(1, 2), 0);
        x.give(0, 1);
        CHECKS.due("7: not what is given at the next", x.lock(0, 2), 3);
        CHECKS.due("7: what is given at the next", x.lock(1, 2), 1);
        CHECKS.due("7: passed", x.lock(0, 1), 1);
        CHECKS.due("7: not passed", x.lock(1, 1), 0);
        CHECKS.due("7: its law is another", x.lock(1, 0), 1);
        CHECKS.due("7: no such lock", x.lock(4, 0), EelLocks.UNKNOWN);
        CHECKS.due("7: no such lock", x.lock(-1, 0), EelLocks.UNKNOWN);
        CHECKS.due("7: UNKNOWN ahead of OUTSIDE", x.lock(4, 3), EelLocks.UNKNOWN);
        CHECKS.due("7: what -1", x.lock(0, -1), EelLocks.OUTSIDE);
        CHECKS.due("7: what 3", x.lock(0, 3), EelLocks.OUTSIDE);
        CHECKS.due("7: far below", x.lock(Integer.MIN_VALUE, 0), EelLocks.UNKNOWN);
        CHECKS.due("7: far above", x.lock(Integer.MAX_VALUE, 0), EelLocks.UNKNOWN);
    }
}
