import java.util.regex.Matcher;
import java.util.regex.Pattern;

/**
 * Every short text there is of a few letters, and of a few pieces. What is due is found in another way than
 * by reading: a TOKEN can't stand there if no whole text begins with the TOKENS up to it.
 */
public final class ShortTextsTest {
    private static final String[] LETTERS = {"w", "a", "b", "0", "1", "9", " ", ";", "x"};
    private static final String[] PIECES = {"w7;", "a1;", "b1 1 1;", "b", "s", " 1 ", "64 ", "40", "41", "08", ";"};
    private static final int MOST_LETTERS = 6;
    private static final int MOST_PIECES = 5;
    /** Within the 512 calls that an object is good for: 35 letters at most, cellar(), two counts, clear(). */
    private static final int TEXTS_OF_AN_OBJECT = 13;

    private static final Pattern TOKEN = Pattern.compile("[0-9]+|[^ ]");
    /** Whole texts, each TOKEN with one blank behind it. */
    private static final Pattern WHOLE = Pattern.compile("(?:w (?:0|[1-9][0-9]?) ; |a (?:[1-9]|1[0-9]|20) ; "
        + "|s [1-8] ; |b (?:[1-9]|[1-5][0-9]|6[0-4]) (?:[1-9]|[1-3][0-9]|40) (?:[1-9]|[1-3][0-9]|40) ; )*");

    private static Sentences s;
    private static BroomFlood x;
    private static int texts = 0;

    private static boolean canGoOn(String tokens) {
        Matcher m = WHOLE.matcher(tokens);
        boolean fits = m.matches() || m.hitEnd();
        return fits && tokens.matches("[^w]*w?[^w]*") && tokens.matches("[^a]*a?[^a]*") && tokens.matches("[^s]*s?[^s]*");
    }

    private static int dueOf(String text) {
        StringBuilder tokens = new StringBuilder();
        Matcher m = TOKEN.matcher(text);
        int items = 0;
        while (m.find()) {
            tokens.append(m.group()).append(' ');
            items += m.group().equals(";") ? 1 : 0;
            if (!canGoOn(tokens.toString())) {
                return -10 - m.start();
            }
        }
        return WHOLE.matcher(tokens).matches() ? items : -10 - text.length();
    }

    private static void tryText(String text) {
        if (texts % TEXTS_OF_AN_OBJECT == 0) {
            x = new BroomFlood();
        }
        texts++;
        int told = x.count(4);
        int want = dueOf(text);
        s.due("cellar() of <" + text + ">", Sentences.tell(x, text), want);
        if (want < 0) {
            s.due("BROOMS told, behind the fault of <" + text + ">", x.count(4), told);
        } else {
            s.due("BROOMS told by <" + text + ">", x.count(4), text.chars().filter(c -> c == 'b').count());
        }
        s.due("clear() behind <" + text + ">", x.clear(), want < 0 ? text.length() : 0);
    }

    private static void all(String ahead, String[] parts, int more) {
        tryText(ahead);
        if (more > 0) {
            for (String part : parts) {
                all(ahead + part, parts, more - 1);
            }
        }
    }

    public static void main(String[] args) throws Exception {
        s = new Sentences();
        s.by("FAULT: the place of the first letter of the first TOKEN that can't stand there (one of w, a, d, m, s again, "
            + "a ninth b, a NUMBER beyond what it may be, too); of any other letter, a NUMBER above 99 or with a 0 ahead "
            + "of others, that TOKEN's; the text's length, if it ends too early.");
        all("", LETTERS, MOST_LETTERS);
        all("", PIECES, MOST_PIECES);
        s.end();
    }
}
