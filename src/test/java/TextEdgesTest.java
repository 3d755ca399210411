/** Promises 1 to 5: a test for each sentence about the text and the canal that names a boundary case. */
public final class TextEdgesTest {
    private static final Checks CHECKS = new Checks();
    private static final int NONE = -9, OUTSIDE = -2, STATE = -3, FULL = -4, UNKNOWN = -1;
    private static final String FIGURES = "0123456789";
    private static final String FOUR_LOCKS = "K0K1K2K3";
    private static final String FIVE_LOCKS = FOUR_LOCKS + "K0";
    private static final String FIVE_BARGES = "B100B111B122B233B299";
    private static final String SIX_BARGES = FIVE_BARGES + "B244";

    public static void main(String[] args) {
        newObject();
        write();
        wipe();
        faultByLetter();
        faultByNumbers();
        faultByPlace();
        canal();
        canalRefused();
        canalMadeAnew();
        CHECKS.end();
    }

    private static void newObject() {
        CHECKS.sentence("1", "No locks, no barges.");
        EelLocks x = new EelLocks();
        CHECKS.due("count(1)", x.count(1), 0);
        CHECKS.due("count(2)", x.count(2), 0);
        for (int what = -1; what <= 5; what++) {
            CHECKS.due("barge(0, " + what + ")", x.barge(0, what), UNKNOWN);
            CHECKS.due("lock(0, " + what + ")", x.lock(0, what), UNKNOWN);
        }

        CHECKS.sentence("1", "At first there is nothing.");
        EelLocks y = new EelLocks();
        for (int what = 0; what <= 8; what++) {
            CHECKS.due("count(" + what + ")", y.count(what), 0);
        }
        CHECKS.due("fault()", y.fault(), 0);
        CHECKS.due("canal()", y.canal(), STATE);
        CHECKS.due("pass()", y.pass(), STATE);
        CHECKS.due("undo()", y.undo(), STATE);
        CHECKS.due("basin()", y.basin(), 0);
        CHECKS.due("judge(1, 1)", y.judge(1, 1), 0);
        CHECKS.due("again(0)", y.again(0), STATE);
        CHECKS.due("again(1)", y.again(1), STATE);
        CHECKS.due("keep(1)", y.keep(1), 0);
        CHECKS.due("wipe()", y.wipe(), 0);

        CHECKS.sentence("1", "THE SEED, a long; 0 at first");
        CHECKS.due("seed(3)", new EelLocks().seed(3), 0);

        CHECKS.sentence("1", "A new object");
        EelLocks used = Pasts.day();
        EelLocks z = new EelLocks();
        CHECKS.due("count(0)", z.count(0), 0);
        CHECKS.due("count(2)", z.count(2), 0);
        CHECKS.due("seed(0)", z.seed(0), 0);
        CHECKS.due("the other one's count(7)", used.count(7), 6);
    }

    private static void write() {
        CHECKS.sentence("2", "A letter (0 to 255) comes behind THE TEXT");
        CHECKS.due("write(0), the smallest", new EelLocks().write(0), 1);
        CHECKS.due("write(255), the largest", new EelLocks().write(255), 1);
        EelLocks low = Checks.told("C");
        CHECKS.due("write(0)", low.write(0), 2);
        CHECKS.due("it is no part", low.fault(), 1);
        EelLocks high = Checks.told("C");
        CHECKS.due("write(255)", high.write(255), 2);
        CHECKS.due("it is no part", high.fault(), 1);

        CHECKS.sentence("2", "comes behind THE TEXT: how long it is.");
        EelLocks x = new EelLocks();
        CHECKS.due("behind nothing", x.write('C'), 1);
        CHECKS.due("behind one", x.write('K'), 2);
        CHECKS.due("behind two", x.write('2'), 3);
        CHECKS.due("C, K, 2 is a canal", x.canal(), 10);
        CHECKS.due("its law", x.lock(0, 0), 2);

        CHECKS.sentence("2", "OUTSIDE; FULL: there are 40.");
        int[] outside = {-1, 256, 'C' + 256, 'C' - 256, Integer.MIN_VALUE, Integer.MAX_VALUE};
        for (int letter : outside) {
            CHECKS.refused("write(" + letter + ")", Pasts::day, y -> y.write(letter), OUTSIDE);
            CHECKS.refused("write(" + letter + ") to nothing", EelLocks::new, y -> y.write(letter), OUTSIDE);
        }

        CHECKS.sentence("2", "THE TEXT is letters (40 at most)");
        EelLocks full = new EelLocks();
        for (int length = 1; length <= 40; length++) {
            CHECKS.due("the letter " + length, full.write('C'), length);
        }
        CHECKS.due("the letter 41", full.write('C'), FULL);
        CHECKS.due("it has 40", full.count(0), 40);

        CHECKS.sentence("2", "FULL: there are 40.");
        String forty = "C" + FIVE_LOCKS + SIX_BARGES + "XXXXX";
        CHECKS.due("it has 40", Checks.told(forty).count(0), 40);
        CHECKS.refused("write('C') to 40", () -> Pasts.dayWith(forty), y -> y.write('C'), FULL);
        CHECKS.refused("write(0) to 40", () -> Pasts.dayWith(forty), y -> y.write(0), FULL);
        CHECKS.refused("write(255) to 40", () -> Pasts.dayWith(forty), y -> y.write(255), FULL);
        CHECKS.due("write to 39", Checks.told(forty.substring(1)).write('C'), 40);

        CHECKS.sentence("2", "of several the first that a call names");
        CHECKS.due("write(-1) to 40", Checks.told(forty).write(-1), OUTSIDE);
        CHECKS.due("write(256) to 40", Checks.told(forty).write(256), OUTSIDE);
    }

    private static void wipe() {
        CHECKS.sentence("3", "THE TEXT is empty: how long it was.");
        CHECKS.due("of nothing", new EelLocks().wipe(), 0);
        CHECKS.due("of one", Checks.told("C").wipe(), 1);
        EelLocks x = Checks.told("C".repeat(40));
        CHECKS.due("of 40", x.wipe(), 40);
        CHECKS.due("of none again", x.wipe(), 0);
        CHECKS.due("it is empty", x.count(0), 0);
        CHECKS.due("as at first", x.fault(), 0);
        for (int length = 1; length <= 40; length++) {
            CHECKS.due("40 find room again, " + length, x.write('K'), length);
        }
        CHECKS.due("but no more", x.write('K'), FULL);
        CHECKS.due("the new ones count", x.fault(), 0);
        CHECKS.due("of 40 again", x.wipe(), 40);

        CHECKS.sentence("3", "THE TEXT is empty");
        CHECKS.changesNothing("all but the text stays: wipe()", () -> Pasts.dayWith(""), EelLocks::wipe, 0);
        EelLocks y = Pasts.day();
        CHECKS.due("wipe()", y.wipe(), 11);
        CHECKS.due("the canal stays", 10 * y.count(1) + y.count(2), 44);
        CHECKS.due("the acts stay", y.count(7), 6);
        CHECKS.due("the seed stays", y.seed(0), 77);
        CHECKS.due("a slot stays", y.again(1), 1);
        CHECKS.due("as it was kept", y.count(6), 2);
    }

    /** Behind what is begun all 256 letters; those taken are answered by one answer, the others by their place. */
    private static void lettersBehind(String begun, String taken, int answer) {
        for (int letter = 0; letter <= 255; letter++) {
            EelLocks x = Checks.told(begun);
            x.write(letter);
            boolean fits = taken.indexOf(letter) >= 0;
            CHECKS.due("behind '" + begun + "' letter " + letter, x.fault(), fits ? answer : begun.length());
        }
    }

    private static void faultByLetter() {
        CHECKS.sentence("4", "A CANAL is a TEXT: C, then PARTS, none or more");
        lettersBehind("", "C", NONE);
        lettersBehind("C", "KB", 2);
        lettersBehind("CK0", "KB", 4);
        lettersBehind("CB100", "KB", 6);
        lettersBehind("CK3B299", "KB", 8);

        CHECKS.sentence("4", "Kr a LOCK of LAW r: 0 AS CAME, 1 SECOND FIRST, 2 LIGHT FIRST, 3 BY TEA");
        lettersBehind("CK", "0123", NONE);

        CHECKS.sentence("4", "Blwt a BARGE l long (1, 2)");
        lettersBehind("CB", "12", 3);

        CHECKS.sentence("4", "w heavy (0 to 9)");
        lettersBehind("CB1", FIGURES, 4);
        lettersBehind("CB2", FIGURES, 4);

        CHECKS.sentence("4", "with t loads of TEA (0 to 9)");
        lettersBehind("CB10", FIGURES, NONE);
        lettersBehind("CB29", FIGURES, NONE);
    }

    private static void faultByNumbers() {
        CHECKS.sentence("4", "LOCKS (5 at most)");
        lettersBehind("C" + FOUR_LOCKS, "KB", 10);
        lettersBehind("C" + FOUR_LOCKS + "K", "0123", NONE);
        lettersBehind("C" + FIVE_LOCKS, "B", 12);
        faultOf("C" + FIVE_LOCKS, NONE);
        faultOf("C" + FIVE_LOCKS + "K0", 11);
        faultOf("C" + FOUR_LOCKS + "B100K0", NONE);
        faultOf("C" + FOUR_LOCKS + "B100K0K0", 15);

        CHECKS.sentence("4", "BARGES (6 at most)");
        lettersBehind("C" + FIVE_BARGES, "KB", 22);
        lettersBehind("C" + FIVE_BARGES + "B", "12", 23);
        lettersBehind("C" + SIX_BARGES, "K", 26);
        faultOf("C" + SIX_BARGES, NONE);
        faultOf("C" + SIX_BARGES + "B100", 25);
        faultOf("C" + FIVE_BARGES + "K0B100", NONE);
        faultOf("C" + FIVE_BARGES + "K0B100B100", 27);

        CHECKS.sentence("4", "LOCKS (5 at most), BARGES (6 at most) are numbered as they are told, each for itself");
        lettersBehind("C" + FIVE_LOCKS + SIX_BARGES, "", NONE);
        lettersBehind("C" + SIX_BARGES + FIVE_LOCKS, "", NONE);
        faultOf("C" + FIVE_LOCKS + SIX_BARGES, NONE);
        faultOf("C" + SIX_BARGES + FIVE_LOCKS, NONE);
    }

    private static void faultByPlace() {
        CHECKS.sentence("4", "FAULT: the place of the first letter by which THE TEXT can be no CANAL");
        faultOf("XY", 0);
        faultOf("CXY", 1);
        faultOf("CKXB3", 2);
        faultOf("CB0B0", 2);
        faultOf("CB1XK9", 3);
        faultOf("CB10XK9", 4);
        faultOf("CB100XK9", 5);
        faultOf("C" + FIVE_LOCKS + "KX", 11);
        faultOf("C" + FIVE_LOCKS + SIX_BARGES + "X", 35);

        CHECKS.sentence("4", "whatever came behind it");
        faultOf("XCK0", 0);
        faultOf("CXK0", 1);
        faultOf("CK4K0", 2);
        faultOf("CB300K0", 2);
        faultOf("CBC100", 2);
        faultOf("C" + FIVE_LOCKS + "K0B100", 11);

        CHECKS.sentence("4", "(its length set aside)");
        faultOf("C" + FIVE_LOCKS + SIX_BARGES + "KKKKK", 35);
        faultOf("C" + FIVE_LOCKS + SIX_BARGES.substring(0, 23), 34);
        faultOf("C".repeat(40), 1);
        faultOf("X".repeat(40), 0);

        CHECKS.sentence("4", "its length, if it is only not at its end");
        faultOf("", 0);
        faultOf("CK", 2);
        faultOf("CB", 2);
        faultOf("CB1", 3);
        faultOf("CB19", 4);
        faultOf("CK3B299K", 8);
        faultOf("C" + FOUR_LOCKS + "K", 10);
        faultOf("C" + FIVE_BARGES + "B", 22);
        faultOf("C" + FIVE_BARGES + "B2", 23);
        faultOf("C" + FIVE_BARGES + "B24", 24);

        CHECKS.sentence("4", "NONE: none. At first there is nothing.");
        faultOf("C", NONE);
        faultOf("CK0", NONE);
        faultOf("CB299", NONE);
        CHECKS.due("of a new object", new EelLocks().fault(), 0);

        CHECKS.sentence("4", "FAULT; NONE.");
        CHECKS.changesNothing("fault() of none", () -> Pasts.dayWith("CK2B212B101"), EelLocks::fault, NONE);
        CHECKS.changesNothing("fault() at a letter", () -> Pasts.dayWith("CK2B2X2B101"), EelLocks::fault, 5);
        CHECKS.changesNothing("fault() at the end", () -> Pasts.dayWith("CK2B212B10"), EelLocks::fault, 10);
    }

    private static void faultOf(String text, int want) {
        CHECKS.due("of '" + text + "'", Checks.told(text).fault(), want);
    }

    private static void canal() {
        CHECKS.sentence("5", "10 times LOCKS, and BARGES.");
        CHECKS.due("the least", Checks.told("C").canal(), 0);
        CHECKS.due("a lock alone", Checks.told("CK0").canal(), 10);
        CHECKS.due("a barge alone", Checks.told("CB100").canal(), 1);
        CHECKS.due("five locks", Checks.told("C" + FIVE_LOCKS).canal(), 50);
        CHECKS.due("six barges", Checks.told("C" + SIX_BARGES).canal(), 6);
        CHECKS.due("the most", Checks.told("C" + FIVE_LOCKS + SIX_BARGES).canal(), 56);

        CHECKS.sentence("5", "are numbered as they are told, each for itself");
        EelLocks x = Checks.canal("CB100K3B219K0K2B155");
        int[] laws = {3, 0, 2};
        int[] lengths = {1, 2, 1};
        int[] loads = {0, 9, 5};
        for (int i = 0; i < 3; i++) {
            CHECKS.due("lock(" + i + ", 0)", x.lock(i, 0), laws[i]);
            CHECKS.due("barge(" + i + ", 0)", x.barge(i, 0), lengths[i]);
            CHECKS.due("barge(" + i + ", 2)", x.barge(i, 2), loads[i]);
        }

        CHECKS.sentence("5", "THE TEXT (that stays as it is) is THE CANAL");
        EelLocks y = Checks.told("CK1B123");
        CHECKS.due("canal()", y.canal(), 11);
        CHECKS.due("its length", y.count(0), 7);
        CHECKS.due("its fault", y.fault(), NONE);
        CHECKS.due("canal() again", y.canal(), 11);
        CHECKS.due("goes on behind it", y.write('K'), 8);
        CHECKS.due("goes on behind it", y.write('3'), 9);
        CHECKS.due("canal() of more", y.canal(), 21);
        CHECKS.due("wipe()", y.wipe(), 9);
    }

    private static void canalRefused() {
        CHECKS.sentence("5", "STATE: a FAULT.");
        CHECKS.refused("canal() of nothing", EelLocks::new, EelLocks::canal, STATE);
        String[] faults = {"", "X", "CX", "CK", "CK4", "CB3", "CB1", "CB12", "CK0B123X", "C" + FIVE_LOCKS + "K0"};
        for (String text : faults) {
            CHECKS.refused("canal() of '" + text + "'", () -> Pasts.dayWith(text), EelLocks::canal, STATE);
        }
        CHECKS.refused("canal() of 40", () -> Pasts.dayWith("C" + FIVE_LOCKS + SIX_BARGES + "KKKKK"), EelLocks::canal, STATE);
        CHECKS.refused("canal() of 7 barges", () -> Pasts.dayWith("C" + SIX_BARGES + "B100"), EelLocks::canal, STATE);
    }

    private static void canalMadeAnew() {
        CHECKS.sentence("5", "THE ROW of ACTS is empty, what was kept is gone; THE SEED stays");
        EelLocks x = Pasts.day();
        CHECKS.due("canal()", x.canal(), 12);
        CHECKS.due("count(7)", x.count(7), 0);
        CHECKS.due("undo()", x.undo(), STATE);
        CHECKS.due("again(0)", x.again(0), STATE);
        CHECKS.due("again(1)", x.again(1), STATE);
        CHECKS.due("seed(0)", x.seed(0), 77);
        EelLocks full = Pasts.fullOfActs();
        full.canal();
        CHECKS.due("a full row of acts is empty", full.undo(), STATE);

        CHECKS.sentence("5", "When THE CANAL is made anew, THE ROW is all BARGES by number, ahead of LOCK 0");
        EelLocks row = Checks.canal("C" + FIVE_LOCKS + SIX_BARGES);
        row.letBy(0);
        row.letBy(3);
        row.pass();
        row.pass();
        row.canal();
        CHECKS.due("the row", row.count(4), 123456);
        CHECKS.due("no lock is passed", row.count(3), 0);
        CHECKS.due("not lock 0", row.lock(0, 1), 0);
        CHECKS.due("not lock 1", row.lock(1, 1), 0);
        Checks.tell(row, "CB111");
        row.canal();
        CHECKS.due("the row of one", row.count(4), 1);
        Checks.tell(row, "CK0");
        row.canal();
        CHECKS.due("the row of none", row.count(4), 0);

        CHECKS.sentence("5", "all HOURS are 0, no TEA is given.");
        EelLocks all = Checks.canal("CK3K3K3K3K3B105B105B205B105B105B205");
        for (int lock = 0; lock < 5; lock++) {
            for (int barge = 0; barge < 6; barge++) {
                all.give(barge, lock);
            }
            all.pass();
        }
        CHECKS.due("all is given", all.count(6), 30);
        all.canal();
        CHECKS.due("none is given", all.count(6), 0);
        CHECKS.due("all have theirs", all.count(5), 30);
        for (int barge = 0; barge < 6; barge++) {
            CHECKS.due("the hour of " + barge, all.barge(barge, 4), 0);
            CHECKS.due("the tea of " + barge, all.barge(barge, 2), 5);
        }
        for (int lock = 0; lock < 5; lock++) {
            CHECKS.due("given at " + lock, all.lock(lock, 2), 0);
        }
        CHECKS.due("six barges go through five locks as at first", all.count(8), 8);

        CHECKS.sentence("5", "10 times LOCKS, and BARGES. STATE");
        EelLocks less = Checks.canal("C" + FIVE_LOCKS + SIX_BARGES);
        Checks.tell(less, "CK1B101");
        CHECKS.due("fewer than before", less.canal(), 11);
        CHECKS.due("barge(1, 0)", less.barge(1, 0), UNKNOWN);
        CHECKS.due("lock(1, 0)", less.lock(1, 0), UNKNOWN);
        CHECKS.due("count(5)", less.count(5), 1);
        CHECKS.due("count(8)", less.count(8), 1);
    }
}
