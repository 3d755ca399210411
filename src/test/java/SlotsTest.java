/** Promises 26 to 28: slots and counts. */
public final class SlotsTest {
    private static final Checks CHECKS = new Checks();

    public static void main(String[] args) {
        keepAndAgain();
        slotsAreTwo();
        refused();
        count();
        CHECKS.end();
    }

    private static void keepAndAgain() {
        EelLocks x = Checks.canal("CK1K3K0B105B105B205");
        x.give(1, 1);
        x.pass();
        CHECKS.due("26: one lock is passed", x.keep(0), 1);
        CHECKS.due("26: acts stay", x.count(7), 2);
        x.give(0, 1);
        x.give(0, 2);
        x.learn(1, 0);
        x.letBy(1);
        x.pass();
        x.seed(31);
        CHECKS.due("27: as it was kept", x.again(0), 1);
        CHECKS.due("27: locks passed", x.count(3), 1);
        CHECKS.due("27: the row", x.count(4), 213);
        CHECKS.due("27: an hour", x.barge(0, 4), 1);
        CHECKS.due("27: an hour", x.barge(2, 4), 2);
        CHECKS.due("27: a law", x.lock(1, 0), 3);
        CHECKS.due("27: tea", x.barge(0, 2), 5);
        CHECKS.due("27: tea of all", x.count(5), 14);
        CHECKS.due("27: tea given there", x.lock(1, 2), 1);
        CHECKS.due("27: tea given elsewhere", x.lock(2, 2), 0);
        CHECKS.due("27: no acts", x.count(7), 0);
        CHECKS.due("27: none to undo", x.undo(), EelLocks.STATE);
        CHECKS.due("27: the seed is not kept", x.seed(0), 31);
        CHECKS.due("27: gone on from", x.pass(), 213);
        CHECKS.due("27: undone", x.undo(), 0);
        x.pass();
        CHECKS.due("27: again, once more", x.again(0), 1);
        CHECKS.due("27: what is kept stays as it was", x.count(4), 213);
        CHECKS.due("27: the text is not kept", x.count(0), 19);
    }

    private static void slotsAreTwo() {
        EelLocks x = Checks.canal("CK1K1B100B100");
        CHECKS.due("26: slot 0", x.keep(0), 0);
        x.pass();
        CHECKS.due("26: slot 1", x.keep(1), 1);
        x.pass();
        CHECKS.due("27: slot 0", x.again(0), 0);
        CHECKS.due("27: its row", x.count(4), 12);
        CHECKS.due("27: slot 1", x.again(1), 1);
        CHECKS.due("27: its row", x.count(4), 21);
        x.pass();
        CHECKS.due("26: slot 0 anew", x.keep(0), 2);
        x.again(1);
        CHECKS.due("27: slot 0 anew", x.again(0), 2);
        CHECKS.due("27: slot 1 is its own", x.again(1), 1);
    }

    private static void refused() {
        EelLocks x = Checks.canal("CK1B100B100");
        CHECKS.due("27: none were kept", x.again(0), EelLocks.STATE);
        CHECKS.due("27: none were kept", x.again(1), EelLocks.STATE);
        x.keep(1);
        CHECKS.due("27: none were kept in 0", x.again(0), EelLocks.STATE);
        x.letBy(0);
        CHECKS.due("26: no slot 2", x.keep(2), EelLocks.UNKNOWN);
        CHECKS.due("26: no slot -1", x.keep(-1), EelLocks.UNKNOWN);
        CHECKS.due("27: no slot 2", x.again(2), EelLocks.UNKNOWN);
        CHECKS.due("27: no slot -1", x.again(-1), EelLocks.UNKNOWN);
        CHECKS.due("27: refused", x.again(0), EelLocks.STATE);
        CHECKS.due("27: refused, acts stay", x.count(7), 1);
        CHECKS.due("27: refused, the row stays", x.count(4), 21);
        x.canal();
        CHECKS.due("27: gone with the canal", x.again(1), EelLocks.STATE);
        CHECKS.due("27: never kept", x.again(0), EelLocks.STATE);
    }

    private static void count() {
        EelLocks x = Checks.canal("CK3K1B104B105B206B100");
        x.write('K');
        int[] first = {22, 2, 4, 0, 1234, 15, 0, 0, 4};
        countsAre(x, "at first", first);
        x.give(1, 0);
        x.give(1, 0);
        x.give(0, 1);
        x.pass();
        int[] then = {22, 2, 4, 1, 2134, 12, 3, 4, 4};
        countsAre(x, "then", then);
        x.letBy(2);
        int[] late = {22, 2, 4, 1, 2143, 12, 3, 5, 5};
        countsAre(x, "with a late one", late);
        x.pass();
        int[] atBasin = {22, 2, 4, 2, 1243, 12, 3, 6, 5};
        countsAre(x, "at the basin", atBasin);
        EelLocks far = Checks.canal("CK0K0K0K0K0B101B101B101B101B101B102");
        far.give(5, 4);
        far.give(0, 0);
        CHECKS.due("28: given at the last lock, too", far.count(6), 2);
        CHECKS.due("28: tea of all", far.count(5), 5);
        CHECKS.due("28: what -1", x.count(-1), EelLocks.OUTSIDE);
        CHECKS.due("28: what 9", x.count(9), EelLocks.OUTSIDE);
        CHECKS.due("28: nobody's hour", Checks.canal("CK1K1").count(8), 0);
    }

    private static void countsAre(EelLocks x, String when, int[] counts) {
        for (int what = 0; what < counts.length; what++) {
            CHECKS.due("28: " + when + ", count(" + what + ")", x.count(what), counts[what]);
        }
    }
}
