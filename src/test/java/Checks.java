/** Compares answers with those that are due, and ends the program with 1 if one was not. */
final class Checks {
    private int right;
    private int wrong;

    void due(String call, long got, long want) {
        if (got == want) {
            right++;
        } else {
            wrong++;
            System.out.println(call + " answered " + got + ", due is " + want);
        }
    }

    void holds(String what, boolean held) {
        due(what, held ? 1 : 0, 1);
    }

    void end() {
        System.out.println(right + " answers as due, " + wrong + " not");
        if (wrong > 0 || right == 0) {
            System.exit(1);
        }
    }

    /** An object whose text is the one told. */
    static EelLocks told(String text) {
        EelLocks x = new EelLocks();
        tell(x, text);
        return x;
    }

    /** An object whose canal is the one told. */
    static EelLocks canal(String text) {
        EelLocks x = told(text);
        if (x.canal() < 0) {
            throw new IllegalArgumentException(text);
        }
        return x;
    }

    static void tell(EelLocks x, String text) {
        x.wipe();
        for (int i = 0; i < text.length(); i++) {
            x.write(text.charAt(i));
        }
    }
}
