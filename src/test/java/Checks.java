import java.io.IOException;
import java.io.UncheckedIOException;
import java.nio.charset.StandardCharsets;
import java.nio.file.Files;
import java.nio.file.Path;
import java.util.function.Supplier;
import java.util.function.ToLongFunction;

/** Compares answers with those that are due, and ends the program with 1 if one was not. */
final class Checks {
    private static final int MOST_ACTS = 14;

    private int right;
    private int wrong;
    private int sentences;
    private int comparedBefore;
    private String sentence = "";
    private String doc = "";

    /** Begins a test of its own, for one sentence of the document, told in the document's words. */
    void sentence(String promise, String words) {
        endSentence();
        sentence = promise + " '" + words + "': ";
        comparedBefore = right + wrong;
        sentences++;
        holds("the document says so", theDocument().contains(words));
    }

    private void endSentence() {
        if (sentences > 0 && right + wrong <= comparedBefore + 1) {
            wrong++;
            System.out.println(sentence + "nothing was compared");
        }
    }

    private String theDocument() {
        if (doc.isEmpty()) {
            try {
                doc = Files.readString(Path.of("../shared/DOC.md"), StandardCharsets.UTF_8).replaceAll("\\s+", " ");
            } catch (IOException e) {
                throw new UncheckedIOException(e);
            }
        }
        return doc;
    }

    void due(String call, long got, long want) {
        if (got == want) {
            right++;
        } else {
            wrong++;
            System.out.println(sentence + call + " answered " + got + ", due is " + want);
        }
    }

    void holds(String what, boolean held) {
        due(what, held ? 1 : 0, 1);
    }

    /** The call is refused, and leaves everything as it was. */
    void refused(String call, Supplier<EelLocks> past, ToLongFunction<EelLocks> asked, int refusal) {
        changesNothing(call, past, asked, refusal);
    }

    /** Of two objects of one past only one is asked; whatever comes then, both answer alike. */
    void changesNothing(String call, Supplier<EelLocks> past, ToLongFunction<EelLocks> asked, long want) {
        EelLocks x = past.get();
        due(call, asked.applyAsLong(x), want);
        goBackAndOn(call, x, past.get());
        EelLocks z = past.get();
        asked.applyAsLong(z);
        lookAtAll(call + ", then", z, past.get());
    }

    /** By few other calls, as one that looks and does harm would do it to both. */
    private void goBackAndOn(String call, EelLocks x, EelLocks y) {
        lookAtCounts(call + ", then", x, y);
        boolean more = true;
        for (int i = 0; i <= MOST_ACTS && more; i++) {
            int left = y.undo();
            more = left >= 0;
            due(call + ", then undo to " + left, x.undo(), left);
            lookAtCounts(call + ", then undo to " + left, x, y);
        }
        for (int slot = 0; slot < 2; slot++) {
            due(call + ", then again(" + slot + ")", x.again(slot), y.again(slot));
            lookAtState(call + ", then again(" + slot + ")", x, y);
        }
        due(call + ", then seed(1)", x.seed(1), y.seed(1));
        due(call + ", then canal()", x.canal(), y.canal());
        lookAtAll(call + ", then canal()", x, y);
    }

    private void lookAtCounts(String when, EelLocks x, EelLocks y) {
        for (int what = 3; what <= 8; what++) {
            due(when + " count(" + what + ")", x.count(what), y.count(what));
        }
    }

    private void lookAtAll(String when, EelLocks x, EelLocks y) {
        due(when + " fault()", x.fault(), y.fault());
        for (int what = 0; what <= 2; what++) {
            due(when + " count(" + what + ")", x.count(what), y.count(what));
        }
        for (int barge = 0; barge < 6; barge++) {
            due(when + " barge(" + barge + ", 0)", x.barge(barge, 0), y.barge(barge, 0));
            due(when + " barge(" + barge + ", 1)", x.barge(barge, 1), y.barge(barge, 1));
        }
        lookAtState(when, x, y);
    }

    private void lookAtState(String when, EelLocks x, EelLocks y) {
        lookAtCounts(when, x, y);
        int barges = y.count(2);
        for (int barge = 0; barge < barges; barge++) {
            due(when + " barge(" + barge + ", 2)", x.barge(barge, 2), y.barge(barge, 2));
            due(when + " barge(" + barge + ", 4)", x.barge(barge, 4), y.barge(barge, 4));
        }
        int locks = y.count(1);
        for (int lock = 0; lock < locks; lock++) {
            due(when + " lock(" + lock + ", 0)", x.lock(lock, 0), y.lock(lock, 0));
            due(when + " lock(" + lock + ", 2)", x.lock(lock, 2), y.lock(lock, 2));
        }
    }

    void end() {
        endSentence();
        System.out.println((sentences > 0 ? sentences + " sentences, " : "") + right + " answers as due, " + wrong + " not");
        if (wrong > 0 || right == 0) {
            System.exit(1);
        }
    }

    /** An object whose text is the one told. */
    static EelLocks told(String text) {
        EelLocks x = new EelLocks();
        tell(x, text);
        return x;
    }

    /** An object whose canal is the one told. */
    static EelLocks canal(String text) {
        EelLocks x = told(text);
        if (x.canal() < 0) {
            throw new IllegalArgumentException(text);
        }
        return x;
    }

    static void tell(EelLocks x, String text) {
        x.wipe();
        for (int i = 0; i < text.length(); i++) {
            x.write(text.charAt(i));
        }
    }
}
