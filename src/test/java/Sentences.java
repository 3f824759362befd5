import java.io.IOException;
import java.nio.file.Files;
import java.nio.file.Path;
import java.util.HashSet;
import java.util.Set;

/**
 * What the tests of the document's sentences share: the sentence at hand, which must stand in the
 * document word by word, the answers that are due, objects told by a text, and two objects compared.
 */
final class Sentences {
    private static final int SHOWN = 40;

    private final String document;
    private String sentence = "";
    private final Set<String> sentences = new HashSet<>();
    private int answers = 0;
    private int wrong = 0;

    Sentences() throws IOException {
        document = oneLine(Files.readString(Path.of("../shared/DOC.md")));
    }

    private static String oneLine(String text) {
        return text.replaceAll("\\s+", " ");
    }

    /** What follows is due by these words. */
    void by(String words) {
        sentence = words;
        sentences.add(words);
        if (!document.contains(oneLine(words))) {
            fail("the document does not say so");
        }
    }

    void due(String call, long got, long want) {
        answers++;
        if (got != want) {
            fail(call + " answered " + got + ", due is " + want);
        }
    }

    private void fail(String what) {
        wrong++;
        if (wrong <= SHOWN) {
            System.out.println("<" + sentence + "> " + what);
        }
    }

    /** Ends the test's run, with 1 if anything was wrong. */
    void end() {
        System.out.println(sentences.size() + " sentences, " + answers + " answers, " + wrong + " wrong");
        if (wrong != 0) {
            System.exit(1);
        }
    }

    static void type(BroomFlood x, String text) {
        for (char letter : text.toCharArray()) {
            x.type(letter);
        }
    }

    static int tell(BroomFlood x, String text) {
        type(x, text);
        return x.cellar();
    }

    BroomFlood of(String text) {
        BroomFlood x = new BroomFlood();
        if (tell(x, text) < 0) {
            fail("not read: " + text);
        }
        return x;
    }

    static void minutes(BroomFlood x, int n) {
        for (int i = 0; i < n; i++) {
            x.minute();
        }
    }

    void brooms(String call, BroomFlood x, int b, int... want) {
        for (int what = 0; what < want.length; what++) {
            due(call + ": broom(" + b + ", " + what + ")", x.broom(b, what), want[what]);
        }
    }

    void now(String call, BroomFlood x, int... want) {
        for (int what = 0; what < want.length; what++) {
            due(call + ": now(" + what + ")", x.now(what), want[what]);
        }
    }

    void counts(String call, BroomFlood x, int... want) {
        for (int what = 0; what < want.length; what++) {
            due(call + ": count(" + what + ")", x.count(what), want[what]);
        }
    }

    /** All that can be seen of two objects without changing them. */
    void alike(String call, BroomFlood x, BroomFlood y) {
        for (int b = 0; b < 8; b++) {
            for (int what = 0; what < 7; what++) {
                due(call + ": broom(" + b + ", " + what + ")", x.broom(b, what), y.broom(b, what));
            }
        }
        for (int what = 0; what < 6; what++) {
            due(call + ": now(" + what + ")", x.now(what), y.now(what));
        }
        for (int what = 0; what < 7; what++) {
            due(call + ": count(" + what + ")", x.count(what), y.count(what));
        }
        due(call + ": trace()", x.trace(), y.trace());
        due(call + ": splitFirst()", x.splitFirst(), y.splitFirst());
        due(call + ": stands(30)", x.stands(30), y.stands(30));
    }

    /**
     * All that can be found out of two objects, both being used up by it: what can be undone,
     * what the images hold, what was measured, what the text says.
     */
    void sameThrough(String call, BroomFlood x, BroomFlood y) {
        alike(call, x, y);
        for (int i = 1; i <= 9; i++) {
            due(call + ", undo() " + i, x.undo(), y.undo());
            alike(call + " and undone " + i, x, y);
        }
        for (int image = 0; image < 2; image++) {
            due(call + ", back(" + image + ")", x.back(image), y.back(image));
            alike(call + " and back to " + image, x, y);
        }
        due(call + ", forget()", x.forget(), y.forget());
        due(call + ", cellar()", x.cellar(), y.cellar());
        alike(call + " and read", x, y);
        due(call + ", clear()", x.clear(), y.clear());
    }
}
