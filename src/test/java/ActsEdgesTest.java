import java.util.function.Supplier;
import java.util.function.ToLongFunction;

/** Promises 6 to 12: a test for each sentence about barges, locks and acts that names a boundary case. */
public final class ActsEdgesTest {
    private static final Checks CHECKS = new Checks();
    private static final int OUTSIDE = -2, STATE = -3, UNKNOWN = -1;
    private static final int[] FAR = {Integer.MIN_VALUE, Integer.MAX_VALUE};

    public static void main(String[] args) {
        barge();
        bargeRefused();
        lock();
        lockRefused();
        passInOrder();
        chambers();
        hours();
        laws();
        give();
        giveRefused();
        letBy();
        learn();
        learnRefused();
        undo();
        actsInTheRow();
        CHECKS.end();
    }

    private static void barge() {
        CHECKS.sentence("6", "how long it is (what = 0)");
        EelLocks x = Checks.canal("CB100B299K0B155");
        CHECKS.due("the shortest", x.barge(0, 0), 1);
        CHECKS.due("the longest", x.barge(1, 0), 2);
        CHECKS.due("the last", x.barge(2, 0), 1);

        CHECKS.sentence("6", "how heavy (1)");
        CHECKS.due("the lightest", x.barge(0, 1), 0);
        CHECKS.due("the heaviest", x.barge(1, 1), 9);

        CHECKS.sentence("6", "its TEA now (2)");
        CHECKS.due("the least", x.barge(0, 2), 0);
        CHECKS.due("the most", x.barge(1, 2), 9);
        for (int left = 8; left >= 0; left--) {
            x.give(1, 0);
            CHECKS.due("now", x.barge(1, 2), left);
        }
        CHECKS.due("the other's stays", x.barge(2, 2), 5);

        CHECKS.sentence("6", "its place in THE ROW (3)");
        EelLocks six = Checks.canal("CB100B100B100B100B100B100");
        for (int barge = 0; barge < 6; barge++) {
            CHECKS.due("the place of " + barge, six.barge(barge, 3), barge);
        }
        six.letBy(0);
        six.letBy(4);
        CHECKS.due("the first one now", six.barge(1, 3), 0);
        CHECKS.due("the second one now", six.barge(0, 3), 1);
        CHECKS.due("the last one now", six.barge(4, 3), 5);
        CHECKS.due("alone", Checks.canal("CB100").barge(0, 3), 0);

        CHECKS.sentence("6", "its HOUR (4)");
        EelLocks y = Checks.canal("CK0K0K0K0K0B200B200B200B200B200B200");
        for (int lock = 0; lock < 5; lock++) {
            CHECKS.due("of the first, ahead of " + lock, y.barge(0, 4), lock);
            CHECKS.due("of the last, ahead of " + lock, y.barge(5, 4), lock == 0 ? 0 : lock + 5);
            y.pass();
        }
        CHECKS.due("of the first", y.barge(0, 4), 5);
        CHECKS.due("of the last", y.barge(5, 4), 10);
    }

    private static void bargeRefused() {
        CHECKS.sentence("6", "its HOUR (4). UNKNOWN; OUTSIDE.");
        int[] none = {-1, 4, 6, FAR[0], FAR[1]};
        for (int barge : none) {
            for (int what = 0; what <= 4; what++) {
                int asked = what;
                CHECKS.refused("barge(" + barge + ", " + what + ")", Pasts::day, x -> x.barge(barge, asked), UNKNOWN);
            }
        }
        CHECKS.refused("barge(6, 0) of 6", Pasts::most, x -> x.barge(6, 0), UNKNOWN);
        CHECKS.due("barge(5, 0) of 6", Pasts.most().barge(5, 0), 1);
        int[] outside = {-1, 5, FAR[0], FAR[1]};
        for (int what : outside) {
            CHECKS.refused("barge(0, " + what + ")", Pasts::day, x -> x.barge(0, what), OUTSIDE);
            CHECKS.refused("barge(3, " + what + ")", Pasts::day, x -> x.barge(3, what), OUTSIDE);
        }

        CHECKS.sentence("6", "of several the first that a call names");
        CHECKS.due("barge(-1, -1)", Pasts.day().barge(-1, -1), UNKNOWN);
        CHECKS.due("barge(4, 5)", Pasts.day().barge(4, 5), UNKNOWN);

        CHECKS.sentence("6", "What is refused changes nothing.");
        for (int what = 0; what <= 4; what++) {
            int asked = what;
            CHECKS.changesNothing("nor what is answered: barge(1, " + what + ")", Pasts::day,
                    x -> x.barge(1, asked), new int[] {1, 1, 5, 1, 1}[what]);
        }
    }

    private static void lock() {
        CHECKS.sentence("7", "Of a LOCK its LAW (what = 0)");
        EelLocks x = Checks.canal("CK3K0K2K1K3B105B209");
        int[] laws = {3, 0, 2, 1, 3};
        for (int lock = 0; lock < 5; lock++) {
            CHECKS.due("of " + lock, x.lock(lock, 0), laws[lock]);
        }
        x.learn(4, 0);
        CHECKS.due("the last one learnt", x.lock(4, 0), 0);

        CHECKS.sentence("7", "1 if it is PASSED (1)");
        EelLocks y = Checks.canal("CK0K0K0");
        for (int passed = 0; passed <= 3; passed++) {
            for (int lock = 0; lock < 3; lock++) {
                CHECKS.due(passed + " passed, of " + lock, y.lock(lock, 1), lock < passed ? 1 : 0);
            }
            y.pass();
        }

        CHECKS.sentence("7", "TEA GIVEN there by all (2)");
        EelLocks all = Checks.canal("CK3K3K3K3K3B109B109B109B109B109B109");
        CHECKS.due("none", all.lock(0, 2), 0);
        for (int i = 0; i < 9; i++) {
            for (int barge = 0; barge < 6; barge++) {
                all.give(barge, 4);
            }
        }
        CHECKS.due("the most", all.lock(4, 2), 54);
        CHECKS.due("none at the next to it", all.lock(3, 2), 0);
        x.give(0, 0);
        x.give(1, 0);
        x.give(1, 1);
        x.pass();
        CHECKS.due("by two, where it is passed", x.lock(0, 2), 2);
        CHECKS.due("by one", x.lock(1, 2), 1);
        CHECKS.due("by none", x.lock(2, 2), 0);
    }

    private static void lockRefused() {
        CHECKS.sentence("7", "TEA GIVEN there by all (2). UNKNOWN; OUTSIDE.");
        int[] none = {-1, 4, 5, FAR[0], FAR[1]};
        for (int lock : none) {
            for (int what = 0; what <= 2; what++) {
                int asked = what;
                CHECKS.refused("lock(" + lock + ", " + what + ")", Pasts::day, x -> x.lock(lock, asked), UNKNOWN);
            }
        }
        CHECKS.refused("lock(5, 0) of 5", Pasts::most, x -> x.lock(5, 0), UNKNOWN);
        CHECKS.due("lock(4, 0) of 5", Pasts.most().lock(4, 0), 0);
        int[] outside = {-1, 3, FAR[0], FAR[1]};
        for (int what : outside) {
            CHECKS.refused("lock(0, " + what + ")", Pasts::day, x -> x.lock(0, what), OUTSIDE);
            CHECKS.refused("lock(3, " + what + ")", Pasts::day, x -> x.lock(3, what), OUTSIDE);
        }

        CHECKS.sentence("7", "of several the first that a call names");
        CHECKS.due("lock(-1, -1)", Pasts.day().lock(-1, -1), UNKNOWN);
        CHECKS.due("lock(4, 3)", Pasts.day().lock(4, 3), UNKNOWN);

        CHECKS.sentence("7", "What is refused changes nothing.");
        for (int what = 0; what <= 2; what++) {
            int asked = what;
            CHECKS.changesNothing("nor what is answered: lock(2, " + what + ")", Pasts::day,
                    x -> x.lock(2, asked), new int[] {2, 0, 1}[what]);
        }
    }

    private static void passInOrder() {
        CHECKS.sentence("8", "PASSED: the next LOCK (none: behind the last one is the basin).");
        EelLocks x = Checks.canal("CK1K0K1K0K1B100B100");
        int[] rows = {21, 21, 12, 12, 21};
        for (int lock = 0; lock < 5; lock++) {
            CHECKS.due("through " + lock, x.pass(), rows[lock]);
            CHECKS.due("passed", x.count(3), lock + 1);
        }
        CHECKS.due("there is no sixth", x.pass(), STATE);
        CHECKS.due("they are at the basin", x.basin(), 21);

        CHECKS.sentence("8", "STATE: no LOCK is left.");
        CHECKS.refused("pass() of a new object", EelLocks::new, EelLocks::pass, STATE);
        CHECKS.refused("pass() without locks", () -> Checks.canal("CB100B100"), EelLocks::pass, STATE);
        CHECKS.refused("pass() behind the last", Pasts::evening, EelLocks::pass, STATE);
        CHECKS.refused("pass() behind the last of all five", () -> {
            EelLocks y = Pasts.most();
            for (int lock = 0; lock < 5; lock++) {
                y.pass();
            }
            return y;
        }, EelLocks::pass, STATE);
        CHECKS.due("one is left", Checks.canal("CK1B100B100").pass(), 21);

        CHECKS.sentence("8", "PASSED: THE ROW then, as figures.");
        CHECKS.due("nobody", Checks.canal("CK1").pass(), 0);
        CHECKS.due("the first figure", Checks.canal("CK1B100").pass(), 1);
        CHECKS.due("the last figure", Checks.canal("CK0B100B100B100B100B100B100").pass(), 123456);
    }

    private static void chambers() {
        CHECKS.sentence("8", "a chamber holds one 2 long; or one 1 long");
        passes("K1B200", 1);
        passes("K1B100", 1);
        passes("K1B200B200", 12);
        passes("K1B200B200B200B200B200B200", 123456);

        CHECKS.sentence("8", "and the next one, too, if that is 1 long");
        passes("K1B100B100", 21);
        passes("K1B100B200", 12);
        passes("K1B200B100", 12);
        passes("K1B100B200B100", 123);
        passes("K1B100B100B200", 213);
        passes("K1B200B100B100", 132);

        CHECKS.sentence("8", "chamber by chamber, from its front on");
        passes("K1B100B100B100", 213);
        passes("K1B100B100B100B100", 2143);
        passes("K1B100B100B100B100B100", 21435);
        passes("K1B100B100B100B100B100B100", 214365);
        passes("K1B100B200B100B100B100", 12435);
        EelLocks waited = Checks.canal("CK1B100B200B100B100");
        waited.letBy(0);
        CHECKS.due("from the row that is now", waited.pass(), 2314);
        waited.undo();
        waited.letBy(0);
        CHECKS.due("from the row that is now", waited.pass(), 2134);

        CHECKS.sentence("8", "THE ROW is as they come out.");
        EelLocks y = Checks.canal("CK1K1B100B100B100");
        y.pass();
        CHECKS.due("the row", y.count(4), 213);
        CHECKS.due("the place of 0", y.barge(0, 3), 1);
        CHECKS.due("the next one takes them as they came out", y.pass(), 123);
    }

    private static void passes(String parts, int want) {
        CHECKS.due(parts, Checks.canal("C" + parts).pass(), want);
    }

    private static void hours() {
        CHECKS.sentence("8", "A chamber is out 1 HOUR behind the greatest of the HOURS of those in it");
        EelLocks first = Checks.canal("CK0K0B200B100");
        first.pass();
        hoursAre("1, and 1 behind the chamber before", first, 1, 2);
        first.pass();
        hoursAre("1 behind its own", first, 2, 3);
        EelLocks pair = Checks.canal("CK0B100B100");
        pair.pass();
        hoursAre("both of one chamber", pair, 1, 1);
        EelLocks late = Checks.canal("CK0K0B200B100B200B100");
        late.pass();
        hoursAre("one each", late, 1, 2, 3, 4);
        late.letBy(0);
        late.letBy(0);
        late.letBy(0);
        late.letBy(2);
        CHECKS.due("the row", late.count(4), 2431);
        late.pass();
        hoursAre("the second one is late", late, 7, 5, 6, 5);
        late.undo();
        late.letBy(1);
        CHECKS.due("the row", late.count(4), 4231);
        late.pass();
        hoursAre("the first one is late", late, 7, 5, 6, 5);

        CHECKS.sentence("8", "and of the chamber before (at this LOCK)");
        EelLocks later = Checks.canal("CK0K0B200B200B200");
        later.pass();
        later.letBy(0);
        later.letBy(0);
        CHECKS.due("the row", later.count(4), 231);
        later.pass();
        hoursAre("the chamber before is later than its own", later, 5, 3, 4);
        EelLocks own = Checks.canal("CK0K0B200B200");
        own.pass();
        own.pass();
        hoursAre("nor is the front one late by those of the lock before", own, 2, 3);
        EelLocks even = Checks.canal("CK0K0B200B200B200");
        even.pass();
        even.letBy(1);
        CHECKS.due("the row", even.count(4), 132);
        even.pass();
        hoursAre("its own is later than the chamber before, or as late", even, 2, 5, 4);

        CHECKS.sentence("8", "that is the HOUR of those in it then");
        EelLocks out = Checks.canal("CK0K1B200B100B100");
        out.pass();
        hoursAre("as it is out", out, 1, 2, 2);
        out.letBy(0);
        out.pass();
        CHECKS.due("the row", out.count(4), 213);
        hoursAre("each of three chambers", out, 4, 3, 5);
    }

    private static void hoursAre(String what, EelLocks x, int... hours) {
        for (int barge = 0; barge < hours.length; barge++) {
            CHECKS.due(what + ", the hour of " + barge, x.barge(barge, 4), hours[barge]);
        }
    }

    private static void laws() {
        CHECKS.sentence("8", "AS CAME; SECOND FIRST: the other way round");
        passes("K0B199B100", 12);
        passes("K0B100B199", 12);
        passes("K1B100B100", 21);
        passes("K1B199B100", 21);
        passes("K1B100B199", 21);

        CHECKS.sentence("8", "LIGHT FIRST: the other way round, if the second one is lighter");
        passes("K2B110B100", 21);
        passes("K2B110B110", 12);
        passes("K2B110B120", 12);
        passes("K2B190B180", 21);
        passes("K2B190B100", 21);
        passes("K2B100B190", 12);
        passes("K2B100B100", 12);
        passes("K2B190B190", 12);
        passes("K2B110B109", 21);
        passes("K2B119B110", 12);

        CHECKS.sentence("8", "BY TEA: the other way round, if the second one gave more TEA there.");
        passes("K3B100B109", 12);
        passes("K3B109B100", 12);
        for (int first = 0; first <= 9; first++) {
            for (int second = Math.max(0, first - 1); second <= Math.min(9, first + 1); second++) {
                EelLocks x = Checks.canal("CK3B109B109");
                give(x, 0, 0, first);
                give(x, 1, 0, second);
                CHECKS.due(first + " and " + second, x.pass(), second > first ? 21 : 12);
            }
        }
        EelLocks there = Checks.canal("CK3K3B109B109");
        there.give(1, 1);
        there.give(0, 0);
        CHECKS.due("tea given elsewhere, later", there.pass(), 12);
        CHECKS.due("tea given elsewhere, before", there.pass(), 21);
    }

    private static void give(EelLocks x, int barge, int lock, int loads) {
        for (int i = 0; i < loads; i++) {
            x.give(barge, lock);
        }
    }

    private static void give() {
        CHECKS.sentence("9", "GIVEN: how much that one gave there.");
        EelLocks x = Checks.canal("CK3K3B109B109B102");
        CHECKS.due("the other's first", x.give(1, 0), 1);
        for (int loads = 1; loads <= 9; loads++) {
            CHECKS.due("its load " + loads, x.give(0, 0), loads);
        }
        CHECKS.due("the other's second", x.give(1, 0), 2);
        CHECKS.due("the other's first at another", x.give(1, 1), 1);
        CHECKS.due("one of two", x.give(2, 0), 1);
        CHECKS.due("its last one elsewhere", x.give(2, 1), 1);
        CHECKS.due("it has none then", x.barge(2, 2), 0);

        CHECKS.sentence("9", "a BARGE gives a load of TEA to the keeper of a LOCK that is not PASSED");
        EelLocks most = Pasts.most();
        CHECKS.due("the first barge, the first lock", most.give(0, 0), 1);
        CHECKS.due("the last barge, the last lock", most.give(5, 4), 1);
        CHECKS.due("its tea", most.barge(5, 2), 3);
        CHECKS.due("given there", most.lock(4, 2), 1);
        most.pass();
        CHECKS.due("the next lock", most.give(0, 1), 1);
        CHECKS.due("given at a lock that is passed stays", most.lock(0, 2), 2);
        CHECKS.due("given at all", most.count(6), 4);
        CHECKS.due("tea of all", most.count(5), 9 + 8 + 7 + 6 + 5 + 4 - 4);
    }

    private static void giveRefused() {
        CHECKS.sentence("9", "UNKNOWN: barge, lock");
        int[] none = {-1, 4, 6, FAR[0], FAR[1]};
        for (int i : none) {
            unknownAct("give(" + i + ", 1)", x -> x.give(i, 1));
            unknownAct("give(1, " + i + ")", x -> x.give(1, i));
        }
        CHECKS.refused("give(3, 1) of 3", Pasts::fullOfActs, x -> x.give(3, 1), UNKNOWN);
        CHECKS.refused("give(1, 2) of 2", Pasts::fullOfActs, x -> x.give(1, 2), UNKNOWN);
        CHECKS.refused("give(6, 4) of 6", Pasts::most, x -> x.give(6, 4), UNKNOWN);
        CHECKS.refused("give(5, 5) of 5", Pasts::most, x -> x.give(5, 5), UNKNOWN);
        CHECKS.refused("give(0, 0) of none", EelLocks::new, x -> x.give(0, 0), UNKNOWN);
        CHECKS.refused("give(0, 0) without locks", () -> Checks.canal("CB109"), x -> x.give(0, 0), UNKNOWN);
        CHECKS.refused("give(0, 0) without barges", () -> Checks.canal("CK3"), x -> x.give(0, 0), UNKNOWN);

        CHECKS.sentence("9", "STATE: it has none");
        CHECKS.refused("give(2, 1), it never had one", Pasts::day, x -> x.give(2, 1), STATE);
        Supplier<EelLocks> gaveAll = () -> {
            EelLocks x = Checks.canal("CK3K3B109B101");
            give(x, 0, 1, 9);
            x.give(1, 0);
            return x;
        };
        CHECKS.refused("give(0, 1), it gave all nine", gaveAll, x -> x.give(0, 1), STATE);
        CHECKS.refused("give(0, 0), it gave all nine", gaveAll, x -> x.give(0, 0), STATE);
        CHECKS.refused("give(1, 0), it gave its only one", gaveAll, x -> x.give(1, 0), STATE);

        CHECKS.sentence("9", "or the LOCK is PASSED");
        CHECKS.refused("give(1, 0)", Pasts::day, x -> x.give(1, 0), STATE);
        CHECKS.refused("give(0, 0), acts are 14", Pasts::fullOfActs, x -> x.give(0, 0), STATE);
        CHECKS.refused("give(1, 3), all are passed", Pasts::evening, x -> x.give(1, 3), STATE);
        CHECKS.due("the next one is not", Pasts.day().give(1, 1), 1);
        CHECKS.due("the last one is not", Pasts.day().give(1, 3), 1);

        CHECKS.sentence("9", "of several the first that a call names");
        CHECKS.due("no such barge, a lock passed", Pasts.day().give(4, 0), UNKNOWN);
        CHECKS.due("a barge without tea, no such lock", Pasts.day().give(2, 4), UNKNOWN);
        CHECKS.due("a barge without tea, lock -1", Pasts.day().give(2, -1), UNKNOWN);
    }

    /** Unknown with few acts in the row, with all that find room, and at the basin. */
    private static void unknownAct(String call, ToLongFunction<EelLocks> asked) {
        CHECKS.refused(call, Pasts::day, asked, UNKNOWN);
        CHECKS.refused(call + ", acts are 14", Pasts::fullOfActs, asked, UNKNOWN);
        CHECKS.refused(call + ", all are passed", Pasts::evening, asked, UNKNOWN);
    }

    private static void letBy() {
        CHECKS.sentence("10", "WAITED: its place then.");
        EelLocks x = Checks.canal("CK0B100B100B100B100B100B100");
        for (int place = 1; place <= 5; place++) {
            CHECKS.due("the first one, from " + (place - 1), x.letBy(0), place);
        }
        CHECKS.due("it is the last", x.letBy(0), STATE);
        CHECKS.due("the row", x.count(4), 234561);
        CHECKS.due("the one ahead of the last", x.letBy(5), 5);
        CHECKS.due("the row", x.count(4), 234516);

        CHECKS.sentence("10", "a BARGE of THE ROW and the one behind it change places");
        EelLocks two = Checks.canal("CB100B200");
        CHECKS.due("the first of two", two.letBy(0), 1);
        CHECKS.due("the row", two.count(4), 21);
        CHECKS.due("the first of two", two.letBy(1), 1);
        CHECKS.due("the row", two.count(4), 12);
        EelLocks evening = Pasts.evening();
        CHECKS.due("at the basin, the row", evening.count(4), 2134);
        CHECKS.due("at the basin, too", evening.letBy(0), 2);
        CHECKS.due("the row", evening.count(4), 2314);
        CHECKS.due("its hour stays", evening.barge(0, 4), Pasts.evening().barge(0, 4));

        CHECKS.sentence("10", "STATE: it is the last one.");
        CHECKS.refused("letBy(3)", Pasts::day, y -> y.letBy(3), STATE);
        CHECKS.refused("letBy(3) at the basin", Pasts::evening, y -> y.letBy(3), STATE);
        CHECKS.refused("letBy(2), acts are 14", Pasts::fullOfActs, y -> y.letBy(2), STATE);
        CHECKS.refused("letBy(0) of one alone", () -> Checks.canal("CK0B100"), y -> y.letBy(0), STATE);
        CHECKS.refused("letBy(0), it is the last by the row", () -> {
            EelLocks y = Checks.canal("CK0B100B100");
            y.letBy(0);
            return y;
        }, y -> y.letBy(0), STATE);
        CHECKS.due("the last by number is not by the row", Checks.canal("CK1B100B100").letBy(0), 1);

        CHECKS.sentence("10", "its place then. UNKNOWN; STATE");
        int[] none = {-1, 4, 6, FAR[0], FAR[1]};
        for (int barge : none) {
            unknownAct("letBy(" + barge + ")", y -> y.letBy(barge));
        }
        CHECKS.refused("letBy(3) of 3", Pasts::fullOfActs, y -> y.letBy(3), UNKNOWN);
        CHECKS.refused("letBy(6) of 6", Pasts::most, y -> y.letBy(6), UNKNOWN);
        CHECKS.refused("letBy(0) of none", EelLocks::new, y -> y.letBy(0), UNKNOWN);
    }

    private static void learn() {
        CHECKS.sentence("11", "LEARNT: the LAW it was.");
        for (int was = 0; was <= 3; was++) {
            for (int law = 0; law <= 3; law++) {
                EelLocks x = Checks.canal("CK0K" + was + "B100");
                CHECKS.due("of " + was + " to " + law, x.learn(1, law), law == was ? STATE : was);
                CHECKS.due("its law then", x.lock(1, 0), law);
                CHECKS.due("the other's law", x.lock(0, 0), 0);
                CHECKS.due("acts", x.count(7), law == was ? 0 : 1);
            }
        }

        CHECKS.sentence("11", "a LOCK that is not PASSED is of another LAW (TEA GIVEN there stays)");
        EelLocks x = Checks.canal("CK3K3B109B109");
        x.give(1, 0);
        x.give(1, 0);
        CHECKS.due("learn(0, 0)", x.learn(0, 0), 3);
        CHECKS.due("tea given there", x.lock(0, 2), 2);
        CHECKS.due("its tea is not given back", x.barge(1, 2), 7);
        CHECKS.due("more can be given there", x.give(1, 0), 3);
        CHECKS.due("as came", x.basin(), 12);
        CHECKS.due("learn(0, 3)", x.learn(0, 3), 0);
        CHECKS.due("by the tea that stays", x.basin(), 21);
    }

    private static void learnRefused() {
        CHECKS.sentence("11", "OUTSIDE: law (0 to 3)");
        int[] outside = {-1, 4, FAR[0], FAR[1]};
        for (int law : outside) {
            CHECKS.refused("learn(1, " + law + ")", Pasts::day, x -> x.learn(1, law), OUTSIDE);
            CHECKS.refused("learn(1, " + law + "), acts are 14", Pasts::fullOfActs, x -> x.learn(1, law), OUTSIDE);
        }
        CHECKS.due("the smallest, at the last lock", Pasts.day().learn(3, 0), 1);
        CHECKS.due("the largest, at the last lock", Pasts.day().learn(3, 3), 1);

        CHECKS.sentence("11", "STATE: the LOCK is PASSED");
        CHECKS.refused("learn(0, 1)", Pasts::day, x -> x.learn(0, 1), STATE);
        CHECKS.refused("learn(0, 3), which it is", Pasts::day, x -> x.learn(0, 3), STATE);
        CHECKS.refused("learn(3, 0), all are passed", Pasts::evening, x -> x.learn(3, 0), STATE);
        CHECKS.refused("learn(0, 0), acts are 14", Pasts::fullOfActs, x -> x.learn(0, 0), STATE);
        CHECKS.due("the next one is not", Pasts.day().learn(1, 0), 1);

        CHECKS.sentence("11", "or of that LAW.");
        CHECKS.refused("learn(1, 1)", Pasts::day, x -> x.learn(1, 1), STATE);
        CHECKS.refused("learn(2, 2)", Pasts::day, x -> x.learn(2, 2), STATE);
        CHECKS.refused("learn(3, 1), which it learnt", Pasts::day, x -> x.learn(3, 1), STATE);
        CHECKS.refused("learn(1, 2), acts are 14", Pasts::fullOfActs, x -> x.learn(1, 2), STATE);
        CHECKS.due("learn(3, 3), which it was", Pasts.day().learn(3, 3), 1);

        CHECKS.sentence("11", "the LAW it was. UNKNOWN; OUTSIDE");
        int[] none = {-1, 4, 5, FAR[0], FAR[1]};
        for (int lock : none) {
            unknownAct("learn(" + lock + ", 0)", x -> x.learn(lock, 0));
        }
        CHECKS.refused("learn(2, 0) of 2", Pasts::fullOfActs, x -> x.learn(2, 0), UNKNOWN);
        CHECKS.refused("learn(5, 1) of 5", Pasts::most, x -> x.learn(5, 1), UNKNOWN);
        CHECKS.refused("learn(0, 1) of none", EelLocks::new, x -> x.learn(0, 1), UNKNOWN);

        CHECKS.sentence("11", "of several the first that a call names");
        CHECKS.due("learn(4, 4)", Pasts.day().learn(4, 4), UNKNOWN);
        CHECKS.due("learn(-1, -1)", Pasts.day().learn(-1, -1), UNKNOWN);
        CHECKS.due("learn(0, 4), passed", Pasts.day().learn(0, 4), OUTSIDE);
        CHECKS.due("learn(0, -1), passed", Pasts.day().learn(0, -1), OUTSIDE);
    }

    private static void undo() {
        CHECKS.sentence("12", "STATE: there is none.");
        CHECKS.refused("undo() of a new object", EelLocks::new, EelLocks::undo, STATE);
        CHECKS.refused("undo() ahead of the first act", Pasts::morning, EelLocks::undo, STATE);
        CHECKS.refused("undo() behind again", () -> {
            EelLocks x = Pasts.day();
            x.again(1);
            return x;
        }, EelLocks::undo, STATE);
        CHECKS.refused("undo() behind canal", () -> {
            EelLocks x = Pasts.day();
            x.canal();
            return x;
        }, EelLocks::undo, STATE);
        CHECKS.refused("undo() behind the last undo", () -> {
            EelLocks x = Pasts.fullOfActs();
            for (int i = 0; i < 14; i++) {
                x.undo();
            }
            return x;
        }, EelLocks::undo, STATE);

        CHECKS.sentence("12", "The last ACT is undone: how many are left.");
        EelLocks x = Pasts.day();
        CHECKS.due("given", x.undo(), 5);
        CHECKS.due("its tea", x.barge(3, 2), 4);
        CHECKS.due("given there", x.lock(3, 2), 0);
        CHECKS.due("learnt", x.undo(), 4);
        CHECKS.due("its law", x.lock(3, 0), 3);
        CHECKS.due("given", x.undo(), 3);
        CHECKS.due("its tea", x.barge(0, 2), 5);
        CHECKS.due("given there", x.lock(2, 2), 0);
        CHECKS.due("waited", x.undo(), 2);
        CHECKS.due("the row", x.count(4), 2134);
        CHECKS.due("passed", x.undo(), 1);
        CHECKS.due("the row", x.count(4), 1234);
        CHECKS.due("its hour", x.barge(3, 4), 0);
        CHECKS.due("locks passed", x.count(3), 0);
        CHECKS.due("the first one", x.undo(), 0);
        CHECKS.due("given there", x.lock(0, 2), 0);
        CHECKS.due("there is none", x.undo(), STATE);
        CHECKS.due("the text is no act", x.count(0), 11);
        CHECKS.due("nor is the seed", x.seed(0), 77);
        CHECKS.due("nor what was kept", x.again(1), 1);

        CHECKS.sentence("12", "ACTS (PASSED, GIVEN, WAITED, LEARNT) are a row");
        EelLocks y = Pasts.day();
        y.keep(0);
        y.wipe();
        y.write('C');
        y.seed(5);
        y.days(0, 3);
        y.basin();
        CHECKS.due("no other call is an act", y.count(7), 6);
        CHECKS.due("undo()", y.undo(), 5);
        CHECKS.due("what is undone is forgotten", y.give(0, 3), 1);
        CHECKS.due("another act", y.count(7), 6);
        CHECKS.due("that one is undone", y.undo(), 5);
        CHECKS.due("by all", y.lock(3, 2), 0);
    }

    private static void actsInTheRow() {
        CHECKS.sentence("12", "are a row (14 at most; of more the first one is forgotten)");
        for (int acts = 1; acts <= 44; acts++) {
            EelLocks x = Checks.canal("CB100B100");
            for (int i = 0; i < acts; i++) {
                CHECKS.due("act " + i + " of " + acts, x.letBy(i % 2), 1);
                CHECKS.due("acts in the row", x.count(7), Math.min(i + 1, 14));
            }
            for (int left = Math.min(acts, 14) - 1; left >= 0; left--) {
                CHECKS.due("undo of " + acts, x.undo(), left);
            }
            CHECKS.due("undo of none", x.undo(), STATE);
            CHECKS.due("the row where the forgotten ones end, of " + acts, x.count(4),
                    Math.max(0, acts - 14) % 2 == 0 ? 12 : 21);
        }

        CHECKS.sentence("12", "of more the first one is forgotten); the last one can be undone");
        EelLocks x = Checks.canal("CK3K3B109B109");
        for (int i = 0; i < 9; i++) {
            x.give(0, 0);
            x.give(1, 0);
        }
        CHECKS.due("14 of 18", x.count(7), 14);
        for (int left = 13; left >= 7; left--) {
            CHECKS.due("undo", x.undo(), left);
        }
        CHECKS.due("11 are given", x.count(6), 11);
        for (int i = 8; i <= 14; i++) {
            x.give((i + 1) % 2, 1);
            CHECKS.due("round its end again", x.count(7), i);
        }
        CHECKS.due("one more", x.letBy(0), 1);
        CHECKS.due("is one too many", x.count(7), 14);
        for (int left = 13; left >= 0; left--) {
            CHECKS.due("undo", x.undo(), left);
        }
        CHECKS.due("the first ones stay given", x.count(6), 5);
        CHECKS.due("the row", x.count(4), 12);
        CHECKS.due("there is none", x.undo(), STATE);
    }
}
