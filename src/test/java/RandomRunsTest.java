import java.util.Random;

/** All promises: runs of calls by chance, from fixed seeds, each answer as the oracle's. */
public final class RandomRunsTest {
    private static final int RUNS = 400;
    private static final int CALLS = 512;
    private static final int KINDS = 26;

    private final Checks checks;
    private final Random chance;
    private final EelLocks x = new EelLocks();
    private final Oracle y = new Oracle();
    private final int run;
    private int calls;

    private RandomRunsTest(Checks checks, int run) {
        this.checks = checks;
        this.run = run;
        this.chance = new Random(run);
    }

    public static void main(String[] args) {
        Checks checks = new Checks();
        for (int run = 0; run < RUNS; run++) {
            new RandomRunsTest(checks, run).go();
        }
        checks.end();
    }

    private void go() {
        tellCanal();
        while (calls < CALLS) {
            if (chance.nextInt(120) == 0) {
                tellCanal();
            } else if (chance.nextInt(3) > 0) {
                one(chance.nextInt(KINDS));
            } else {
                act();
            }
        }
    }

    private void due(String call, long got, long want) {
        calls++;
        // what later calls answer is free
        if (calls <= CALLS) {
            checks.due("run " + run + ", call " + calls + ": " + call, got, want);
        }
    }

    private void tellCanal() {
        due("wipe", x.wipe(), y.wipe());
        StringBuilder text = new StringBuilder("C");
        int locks = chance.nextInt(6);
        int barges = chance.nextInt(8) == 0 ? chance.nextInt(2) : 2 + chance.nextInt(5);
        while (locks + barges > 0) {
            if (chance.nextInt(locks + barges) < locks) {
                text.append('K').append(chance.nextInt(4));
                locks--;
            } else {
                text.append('B').append(chance.nextInt(5) == 0 ? 2 : 1).append(chance.nextInt(3)).append(chance.nextInt(10));
                barges--;
            }
        }
        if (chance.nextInt(5) == 0) {
            text.setCharAt(chance.nextInt(text.length()), "CKB0123459X".charAt(chance.nextInt(11)));
        }
        for (int i = 0; i < text.length(); i++) {
            int letter = text.charAt(i);
            due("write", x.write(letter), y.write(letter));
            if (chance.nextInt(10) == 0) {
                due("fault", x.fault(), y.fault());
            }
        }
        due("fault of " + text, x.fault(), y.fault());
        due("canal", x.canal(), y.canal());
    }

    /** A number near 0 to n - 1. */
    private int near(int n) {
        int odd = chance.nextInt(60);
        return odd == 0 ? -1 : odd == 1 ? n : odd == 2 ? Integer.MIN_VALUE : odd == 3 ? Integer.MAX_VALUE : chance.nextInt(n);
    }

    private int barge() {
        return near(Math.max(1, y.count(2)));
    }

    private int lock() {
        return near(Math.max(1, y.count(1)));
    }

    private int row() {
        int kind = chance.nextInt(4);
        return kind == 0 ? y.basin() : kind == 1 ? y.count(4) : kind == 2 ? chance.nextInt(700000) : y.basin() / 10;
    }

    private void act() {
        int a = barge();
        int b = lock();
        int law = near(4);
        switch (chance.nextInt(8)) {
            case 0 -> due("pass", x.pass(), y.pass());
            case 1, 2, 3 -> due("give " + a + " " + b, x.give(a, b), y.give(a, b));
            case 4, 5 -> due("letBy " + a, x.letBy(a), y.letBy(a));
            case 6 -> due("learn " + b + " " + law, x.learn(b, law), y.learn(b, law));
            default -> due("undo", x.undo(), y.undo());
        }
    }

    private void one(int kind) {
        int a = barge();
        int b = barge();
        int lock = lock();
        boolean flag = chance.nextBoolean();
        switch (kind) {
            case 0 -> { int what = near(5); due("barge " + a + " " + what, x.barge(a, what), y.barge(a, what)); }
            case 1 -> { int what = near(3); due("lock " + lock + " " + what, x.lock(lock, what), y.lock(lock, what)); }
            case 2 -> due("basin", x.basin(), y.basin());
            case 3 -> due("hour " + a, x.hour(a), y.hour(a));
            case 4 -> due("gains " + a, x.gains(a), y.gains(a));
            case 5 -> due("mates " + a, x.mates(a), y.mates(a));
            case 6 -> { if (chance.nextInt(8) == 0) due("first " + a + " " + b, x.first(a, b), y.first(a, b)); }
            case 7, 8, 9 -> due("tea " + a + " " + b + " " + flag, x.tea(a, b, flag), y.tea(a, b, flag));
            case 10, 11 -> { int n = near(7); int row = row(); due("judge " + n + " " + row, x.judge(n, row), y.judge(n, row)); }
            case 12 -> { if (chance.nextInt(8) == 0) due("share " + a + " " + flag, x.share(a, flag), y.share(a, flag)); }
            case 13, 14, 15 -> gave(lock);
            case 16, 17 -> { int what = near(2); due("rests " + a + " " + b + " " + lock + " " + what, x.rests(a, b, lock, what), y.rests(a, b, lock, what)); }
            case 18, 19 -> asleep(a, flag);
            case 20 -> { long v = chance.nextLong(); due("seed " + v, x.seed(v), y.seed(v)); }
            case 21 -> { int m = 1 + near(30); due("days " + a + " " + m, x.days(a, m), y.days(a, m)); }
            case 22 -> { int slot = near(2); due("keep " + slot, x.keep(slot), y.keep(slot)); }
            case 23 -> { int slot = near(2); if (chance.nextInt(3) == 0) due("again " + slot, x.again(slot), y.again(slot)); }
            default -> { int what = near(9); due("count " + what, x.count(what), y.count(what)); }
        }
    }

    private void gave(int lock) {
        int row = row();
        for (int what = 0; what < 3; what++) {
            due("gave " + lock + " " + row + " " + what, x.gave(lock, row, what), y.gave(lock, row, what));
        }
    }

    private void asleep(int barge, boolean flag) {
        int place = near(Math.max(1, y.count(2)));
        int tenths = near(11);
        due("asleep " + barge + " " + place + " " + tenths + " " + flag,
                x.asleep(barge, place, tenths, flag), y.asleep(barge, place, tenths, flag));
    }
}
