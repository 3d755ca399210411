/** Objects that much has been done with; a refused call must leave all of it as it is. */
final class Pasts {
    private Pasts() {
    }

    /**
     * Lock 0 of 4 is passed, the row is 1234, barge 2 has no tea, six acts are in the row,
     * both slots are kept, the seed is 77, and the text tells another canal.
     */
    static EelLocks day() {
        EelLocks x = Checks.canal("CK3K1K2K3B105B116B200B104");
        x.seed(77);
        x.give(1, 0);
        x.keep(0);
        x.pass();
        x.letBy(1);
        x.give(0, 2);
        x.learn(3, 1);
        x.keep(1);
        x.give(3, 3);
        Checks.tell(x, "CK2B212B101");
        return x;
    }

    /** As the day, but the text is another. */
    static EelLocks dayWith(String text) {
        EelLocks x = day();
        Checks.tell(x, text);
        return x;
    }

    /** All locks are passed. */
    static EelLocks evening() {
        EelLocks x = day();
        x.pass();
        x.pass();
        x.pass();
        return x;
    }

    /** Nothing was done yet that could be undone, and slot 1 was never kept. */
    static EelLocks morning() {
        EelLocks x = Checks.canal("CK3K1B105B116B200");
        x.seed(-5);
        x.keep(0);
        return x;
    }

    /**
     * Sixteen acts, of which two are forgotten: the row of acts is full and has gone round its end.
     * Lock 0 of 2 is passed, the row is 213, barge 0 has one load left and barge 1 none.
     */
    static EelLocks fullOfActs() {
        EelLocks x = Checks.canal("CK3K1B105B116B200");
        x.keep(1);
        x.letBy(0);
        for (int i = 0; i < 4; i++) {
            x.give(1, 0);
            x.give(0, 1);
            x.letBy((i + 1) % 2);
        }
        x.learn(1, 2);
        x.pass();
        x.give(1, 1);
        return x;
    }

    /** As many barges and locks as there may be. */
    static EelLocks most() {
        EelLocks x = Checks.canal("CK3K1K2K3K0B119B128B107B116B225B134");
        x.give(1, 0);
        x.letBy(3);
        x.keep(1);
        return x;
    }
}
