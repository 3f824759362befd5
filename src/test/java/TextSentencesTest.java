import java.util.function.ToIntFunction;

/** The sentences of 'Terms', 1 and of promises 1 to 4 that name an edge: bounds, THE TEXT, FAULT. */
public final class TextSentencesTest {
    private static final String ONE = "b1 1 1;";

    private static Sentences s;

    private static void fault(String text, int place) {
        BroomFlood x = new BroomFlood();
        s.due("cellar() of <" + text + ">", Sentences.tell(x, text), -10 - place);
        s.due("letters kept of <" + text + ">", x.count(6), text.length());
    }

    private static void items(String text, int many) {
        BroomFlood x = new BroomFlood();
        s.due("cellar() of <" + text + ">", Sentences.tell(x, text), many);
        s.due("letters left of <" + text + ">", x.count(6), 0);
    }

    /** Every number to 120 behind a letter: within its bounds it is told, beyond them nothing changes. */
    private static void setting(char letter, int least, int most, int first, ToIntFunction<BroomFlood> told) {
        s.due("at first", told.applyAsInt(new BroomFlood()), first);
        for (int n = 0; n <= 120; n++) {
            boolean taken = n >= least && n <= most;
            String text = letter + "" + n + ";";
            BroomFlood x = s.of(letter + "7;");
            s.due("cellar() of " + text, Sentences.tell(x, text), taken ? 1 : -11);
            s.due("told by " + text, told.applyAsInt(x), taken ? n : 7);
            x.clear();
            Sentences.tell(x, ONE);
            s.due("untold behind " + text, told.applyAsInt(x), first);
        }
    }

    private static void settings() {
        s.by("99 cups at first, 0 if untold; 99999 at most)");
        setting('w', 0, 99, 0, x -> x.now(1));
        s.by("AREA (1 .. 20; 4 at first)");
        setting('a', 1, 20, 4, x -> x.count(0));
        s.by("DRAIN (0 .. 20 cups a minute; 0 at first)");
        setting('d', 0, 20, 0, x -> x.count(1));
        s.by("MARK (0 .. 99; 10 at first)");
        setting('m', 0, 99, 10, x -> x.count(2));
        s.by("STAIR (1 .. 8: how many brooms can come down it in a minute; 8 at first)");
        setting('s', 1, 8, 8, x -> x.count(3));
    }

    private static void mostWater() {
        s.by("99 cups at first, 0 if untold; 99999 at most)");
        // 99 + 195 times 8 times 64 are 99939.
        BroomFlood x = s.of("w99;a1;" + "b64 1 1;".repeat(8));
        s.due("stands(195)", x.stands(195), 99939);
        s.due("stands(196)", x.stands(196), 99999);
        s.due("stands(200)", x.stands(200), 99999);
        s.due("most(200)", x.most(200), 99999);
        Sentences.minutes(x, 196);
        s.due("now(1)", x.now(1), 99999);
        s.due("now(3)", x.now(3), 99999);
        s.due("minute()", x.minute(), 99999);
        s.due("99999 less 8 behind it", s.of("w99;a1;d8;" + "b64 1 1;".repeat(8)).stands(200), 99991);
        s.due("and never more than runs off", s.of("w99;a1;d8;" + "b64 1 1;".repeat(8)).price(1, 200), 1600);
    }

    private static void heights() {
        s.by("it STANDS as high as WATER by AREA (cut).");
        for (int area = 1; area <= 20; area++) {
            for (int water = 0; water <= 99; water += 3) {
                BroomFlood x = s.of("w" + water + ";a" + area + ";");
                s.due("now(2) of " + water + " by " + area, x.now(2), water / area);
                s.due("now(3) of " + water + " by " + area, x.now(3), water / area);
                s.due("stands(0) of " + water + " by " + area, x.stands(0), water / area);
            }
        }
        s.due("told behind the water", s.of("a5;w24;").now(2), 4);
    }

    private static void broomNumber(String ahead, String behind, int most, int what) {
        for (int n = 0; n <= 120; n++) {
            String text = ahead + n + behind;
            BroomFlood x = s.of("b7 7 7;b9 9 9;");
            boolean taken = n >= 1 && n <= most;
            s.due("cellar() of " + text, Sentences.tell(x, text), taken ? 1 : -10 - ahead.length());
            s.due("told by " + text, x.broom(0, what), taken ? n : 7);
            s.due("there by " + text, x.now(4), taken ? 1 : 3);
        }
    }

    private static void broomNumbers() {
        s.by("SIZE (1 .. 64 cups)");
        broomNumber("b", " 2 3;", 64, 0);
        s.by("PACE (1 .. 40 minutes)");
        broomNumber("b2 ", " 3;", 40, 1);
        s.by("FIRST (1 .. 40): in how many minutes it comes first.");
        broomNumber("b2 3 ", ";", 40, 2);
        for (int first = 1; first <= 40; first++) {
            BroomFlood x = s.of("a1;b1 40 " + first + ";");
            s.due("not yet, FIRST " + first, x.stands(first - 1), 0);
            s.due("comes, FIRST " + first, x.stands(first), 1);
        }
    }

    private static void manyBrooms() {
        s.by("BROOMS 0 .. (8 at most)");
        for (int many = 0; many <= 8; many++) {
            BroomFlood x = new BroomFlood();
            s.due("cellar() of " + many, Sentences.tell(x, ONE.repeat(many)), many);
            s.due("count(4) of " + many, x.count(4), many);
            s.due("now(4) of " + many, x.now(4), (1 << many) - 1);
        }
        s.by("a ninth b");
        fault(ONE.repeat(9), 56);
        fault(ONE.repeat(8) + "b", 56);
        fault(ONE.repeat(8) + "  b;", 58);
        fault(ONE.repeat(8) + "w1;b", 59);
        items(ONE.repeat(8) + "w1;", 9);
        BroomFlood x = new BroomFlood();
        s.due("the ninth tells nothing", Sentences.tell(x, ONE.repeat(9)), -66);
        s.due("no BROOMS", x.count(4), 0);
    }

    private static void letters() {
        s.by("They are a text (200 letters at most), told letter by letter");
        BroomFlood x = new BroomFlood();
        for (int i = 1; i <= 199; i++) {
            s.due("type(32)", x.type(32), i);
        }
        s.due("type() the 200th", x.type('x'), 200);
        s.due("type() the 201st", x.type(' '), BroomFlood.FULL);
        s.due("count(6)", x.count(6), 200);
        s.due("the 200th is there, and no other", x.cellar(), -10 - 199);
        items(" ".repeat(197) + "w7;", 1);
        items("w7;" + " ".repeat(197), 1);
        fault(" ".repeat(198) + "w7", 200);
        BroomFlood cut = new BroomFlood();
        s.due("the 201st is not read", Sentences.tell(cut, " ".repeat(198) + "w7;"), -210);

        s.by("A letter (0 .. 255) comes to THE TEXT: how many it has. BAD; FULL.");
        BroomFlood y = new BroomFlood();
        int[] wrong = {-1, 256, Integer.MIN_VALUE, Integer.MAX_VALUE, 'w' + 256, 'w' - 256};
        for (int letter = 0; letter < 200; letter++) {
            s.due("type(" + letter + ")", y.type(letter), letter + 1);
        }
        for (int letter : wrong) {
            s.due("type(" + letter + ") when full", y.type(letter), BroomFlood.BAD);
        }
        s.due("clear()", y.clear(), 200);
        for (int letter = 200; letter <= 255; letter++) {
            s.due("type(" + letter + ")", y.type(letter), letter - 199);
        }
        for (int letter : wrong) {
            s.due("type(" + letter + ")", y.type(letter), BroomFlood.BAD);
        }
        s.due("count(6)", y.count(6), 56);

        s.by("THE TEXT is empty: how many letters it had.");
        s.due("clear()", y.clear(), 56);
        s.due("clear() of none", y.clear(), 0);
        s.due("count(6)", y.count(6), 0);
        s.due("nothing of it is left", Sentences.tell(y, "w3;"), 1);
        s.due("clear() behind cellar()", y.clear(), 0);
        s.due("now(1)", y.now(1), 3);
    }

    private static void blanks() {
        s.by("blanks (32), any number, ahead of, between, behind TOKENS (needed only between two NUMBERS)");
        items("w1;a2;d3;m4;s5;b6 7 8;", 6);
        items("   w  1 ;  a 2   ;d   3;  b 6   7  8  ;   ", 4);
        items("b64 40 40;", 1);
        fault("b644040;", 1);
        fault("b64 4040;", 4);
        fault("b12 3;", 5);
        fault("w 9 9;", 4);
        fault("b 1 1 1 1;", 8);
        BroomFlood x = s.of("w12;");
        s.due("no blank within a NUMBER", Sentences.tell(x, "w1 2;"), -13);
        int[] others = {0, 9, 10, 11, 12, 13, 31, 33, 95, 133, 160, 255};
        for (int other : others) {
            fault((char) other + "w1;", 0);
            fault("w" + (char) other + "1;", 1);
            fault("w1" + (char) other + ";", 2);
            fault("w1;" + (char) other, 3);
        }
    }

    private static void noItems() {
        s.by("ITEMS (none, too), each ended by ;");
        String[] none = {"", " ", " ".repeat(200)};
        for (String text : none) {
            BroomFlood x = s.of("w50;a2;d3;m7;s2;b9 4 2;");
            s.due("cellar() of none", Sentences.tell(x, text), 0);
            s.counts("none", x, 4, 0, 10, 8, 0, 0, 0);
            s.now("none", x, 0, 0, 0, 0, 0, 0);
        }
        fault(";", 0);
        fault(" ;", 1);
        fault("w1;;", 3);
        fault("w1;a1", 5);
        fault("w1a1;", 2);
        fault("b1 1 1b1 1 1;", 6);
        fault("b1 1 1", 6);
        fault("b1 1 1   ", 9);
    }

    private static void again() {
        s.by("one of w, a, d, m, s again");
        for (char letter : "wadms".toCharArray()) {
            items(letter + "1;", 1);
            fault(letter + "1;" + letter + "1;", 3);
            fault(letter + "1;" + letter, 3);
            fault(letter + "1;  " + letter + "x", 5);
            fault(letter + "1;b1 1 1;" + letter + "2;", 10);
            for (char other : "wadms".toCharArray()) {
                if (other != letter) {
                    items(letter + "1;" + other + "1;", 2);
                    fault(letter + "1;" + other + "1;" + letter + "1;", 6);
                }
            }
        }
        items("b1 1 1;b1 1 1;", 2);
        BroomFlood x = new BroomFlood();
        s.due("once again in the next text", Sentences.tell(x, "w1;") + Sentences.tell(x, "w2;"), 2);
    }

    /** All orders of the settings, with a BROOM behind each: the order of BROOMS alone matters. */
    private static void anyOrder(String ahead, String rest, int brooms) {
        if (rest.isEmpty()) {
            BroomFlood x = new BroomFlood();
            s.due("cellar() of <" + ahead + ">", Sentences.tell(x, ahead), 5 + brooms);
            s.counts(ahead, x, 3, 4, 5, 6, brooms, 0, 0);
            s.now(ahead, x, 0, 71, 23, 23, (1 << brooms) - 1, 0);
            for (int b = 0; b < brooms; b++) {
                s.brooms(ahead, x, b, 10 + b, 20 + b, 30 + b, 0, 0, 0, 1);
            }
        }
        for (int i = 0; i < rest.length(); i++) {
            char letter = rest.charAt(i);
            String broom = "b" + (10 + brooms) + " " + (20 + brooms) + " " + (30 + brooms) + ";";
            int number = letter == 'w' ? 71 : 3 + "adms".indexOf(letter);
            anyOrder(ahead + letter + number + ";" + broom, rest.replace("" + letter, ""), brooms + 1);
        }
    }

    private static void itemsTell() {
        s.by("ITEMS (none, too), each ended by ; : w N (WATER), a N (AREA), d N (DRAIN), m N (MARK), s N (STAIR; each of "
            + "these once at most), b S P F (a BROOM).");
        anyOrder("", "wadms", 0);
        for (char letter : "wadms".toCharArray()) {
            BroomFlood x = s.of(letter + "3;");
            s.now("by " + letter + " alone", x, 0, letter == 'w' ? 3 : 0);
            s.counts("by " + letter + " alone", x, letter == 'a' ? 3 : 4, letter == 'd' ? 3 : 0, letter == 'm' ? 3 : 10,
                letter == 's' ? 3 : 8, 0);
        }
    }

    /** Every letter there is, where an ITEM begins, where its NUMBER is and where its end is. */
    private static void everyLetter() {
        s.by("TOKENS are the letters w, a, d, m, s, b, NUMBERS and ; .");
        for (int code = 0; code <= 255; code++) {
            boolean token = "wadmsb;0123456789".indexOf(code) >= 0;
            // What is no TOKEN, can't stand behind a whole ITEM nor within one.
            s.due("behind an ITEM, " + code, Sentences.tell(new BroomFlood(), "w1;" + (char) code + "1"),
                code == ' ' ? -14 : token && "adms".indexOf(code) >= 0 || code == 'b' ? -15 : -13);
            s.due("within one, " + code, Sentences.tell(new BroomFlood(), "m1" + (char) code + ";"),
                code == ' ' || code >= '0' && code <= '9' ? 1 : code == ';' ? -13 : -12);
        }
        s.by("the place of the first letter of the first TOKEN that can't stand there");
        for (int code = 0; code <= 255; code++) {
            char letter = (char) code;
            boolean blank = code == 32;
            boolean digit = code >= '0' && code <= '9';
            if (blank) {
                items("" + letter, 0);
            } else {
                fault("" + letter, "wadmsb".indexOf(letter) >= 0 ? 1 : 0);
            }
            fault("w" + letter, blank || digit ? 2 : 1);
            fault("b1 " + letter, blank || code >= '1' && code <= '9' ? 4 : 3);
            if (code == ';') {
                items("w5" + letter, 1);
            } else {
                fault("w5" + letter, blank || digit ? 3 : 2);
            }
            fault("b6 5 4" + letter + letter, blank ? 8 : digit ? 5 : code == ';' ? 7 : 6);
        }
    }

    private static void numbers() {
        s.by("a NUMBER beyond what it may be, too");
        fault("  a  0;", 5);
        fault("a21", 1);
        fault("s9x", 1);
        fault("b64 40 41", 7);
        fault("b65 41 41;", 1);
        s.by("of any other letter, a NUMBER above 99 or with a 0 ahead of others, that TOKEN's");
        items("w0;", 1);
        items("w99;", 1);
        String[] wrong = {"00", "01", "09", "010", "000", "099", "100", "101", "999", "1000", "2147483647", "2147483648",
            "4294967296", "4294967297", "18446744073709551617", "0".repeat(150), "1".repeat(150), "00000000001"};
        for (String number : wrong) {
            fault("w" + number + ";", 1);
            fault("w  " + number, 3);
            fault(number, 0);
            fault("w5 " + number, 3);
            fault("b1 " + number + " 1;", 3);
            fault("b1 1  " + number + ";", 6);
        }
        fault("x", 0);
        fault("W1;", 0);
        fault("w1x;", 2);
        fault("w1;B1 1 1;", 3);
        fault("w-1;", 1);
        fault("w1,", 2);
        s.by("the first TOKEN that can't stand there");
        fault("w;x", 1);
        fault("x;w", 0);
        fault("w1;w100;", 3);
        fault("a0;a0;", 1);
        fault("b0 0 0;", 1);
        fault("b1 00 0;", 3);
        fault("w5 100 x", 3);
        fault("wx100", 1);
    }

    private static void early() {
        s.by("the text's length, if it ends too early.");
        String whole = " w 5 ; b 1 2 3 ;";
        for (int end = 0; end <= whole.length(); end++) {
            boolean between = whole.substring(0, end).trim().isEmpty() || end == 6 || end == 7 || end == whole.length();
            if (between) {
                items(whole.substring(0, end), end < 6 ? 0 : end < 16 ? 1 : 2);
            } else {
                fault(whole.substring(0, end), end);
            }
        }
        fault("w   ", 4);
        fault("w5" + " ".repeat(198), 200);
        fault("w" + " ".repeat(199), 200);
        fault("b64 40 40" + " ".repeat(191), 200);
    }

    private static void toldAnew() {
        s.by("As told; no BROOMS.");
        BroomFlood fresh = new BroomFlood();
        s.counts("new", fresh, 4, 0, 10, 8, 0, 0, 0);
        s.now("new", fresh, 0, 0, 0, 0, 0, 0);
        for (int b = 0; b < 8; b++) {
            s.brooms("new", fresh, b, 0, 0, 0, 0, 0, 0, 0);
        }
        s.due("trace()", fresh.trace(), 0);

        s.by("THE TEXT tells all anew, and is empty then: how many ITEMS.");
        BroomFlood x = s.of("w50;a2;d3;m7;s2;b9 4 2;b8 1 1;b7 1 1;");
        s.counts("told", x, 2, 3, 7, 2, 3, 0, 0);
        s.now("told", x, 0, 50, 25, 25, 7, 0);
        Sentences.minutes(x, 2);
        s.due("cellar()", Sentences.tell(x, "b1 2 3;m0;"), 2);
        s.counts("anew", x, 4, 0, 0, 8, 1, 0, 0);
        s.now("anew", x, 0, 0, 0, 0, 1, 0);
        s.brooms("anew", x, 0, 1, 2, 3, 0, 0, 0, 1);
        s.brooms("anew", x, 1, 0, 0, 0, 0, 0, 0, 0);
        s.due("a fault behind eight BROOMS", Sentences.tell(x, "b9 9 9;".repeat(8) + "x"), -10 - 56);
        x.clear();
        s.due("cellar() of none", x.cellar(), 0);
        for (int b = 0; b < 8; b++) {
            s.brooms("neither of the text before nor of the faulty one", x, b, 0, 0, 0, 0, 0, 0, 0);
        }

        s.by("-10 less FAULT: nothing changes (THE TEXT stays, too).");
        String[] wrong = {"x", "w9;a1;d1;m1;s1;b5 5 5;x", "w9;w", "b1 1 1;b1 1", "w9;a9;b1 1 1;b1 1 0;"};
        for (String text : wrong) {
            BroomFlood tried = kept(text);
            s.due("a fault", tried.cellar() <= -10 ? 1 : 0, 1);
            s.sameThrough("behind the fault of <" + text + ">", tried, kept(text));
        }
        BroomFlood goesOn = new BroomFlood();
        s.due("w5", Sentences.tell(goesOn, "w5"), -12);
        s.due("type(;)", goesOn.type(';'), 3);
        s.due("w5;", goesOn.cellar(), 1);
        s.due("now(1)", goesOn.now(1), 5);
    }

    /** One of which much can be seen, with a text that was not read yet. */
    private static BroomFlood kept(String text) {
        BroomFlood x = s.of("w50;a2;d3;m7;s2;b9 4 2;b8 1 1;b7 1 1;");
        x.keep(0);
        Sentences.minutes(x, 3);
        x.keep(1);
        x.splits(0);
        x.measured(1, 61);
        x.rate(3, 1);
        Sentences.type(x, text);
        return x;
    }

    public static void main(String[] args) throws Exception {
        s = new Sentences();
        settings();
        mostWater();
        heights();
        broomNumbers();
        manyBrooms();
        letters();
        blanks();
        noItems();
        again();
        itemsTell();
        everyLetter();
        numbers();
        early();
        toldAnew();
        s.end();
    }
}
