/** The sentences of 'Terms', 4 and of promises 29 to 33 that name an edge: kinds, THE TRACE, images, read anew. */
public final class KeptSentencesTest {
    private static final int BAD = BroomFlood.BAD;
    private static final int STATE = BroomFlood.STATE;
    private static final int NO = BroomFlood.NO;
    private static final int[] ADDED = {1, 11, 101, 1011, 10101, 100001};

    private static Sentences s;

    private static void rates(String call, BroomFlood x, int b, int... want) {
        for (int kind = 0; kind < want.length; kind++) {
            long before = x.trace();
            s.due(call + ": rate(" + kind + ", " + b + ")", x.rate(kind, b), want[kind]);
            s.due(call + ": added by " + kind, x.trace() - before, ADDED[kind]);
        }
    }

    private static void kinds() {
        s.by("BROOM its SIZE (1). WET up, and its PACE (10). HALF up less DUE (100). BORED twice up (1000). "
            + "BURNING up, and its number (10000). TEACHING up, and how high it STANDS (100000).");
        BroomFlood x = s.of("w50;a3;b7 5 4;b9 2 1;b1 40 40;b1 1 1;b1 1 1;b1 1 1;b1 1 1;b64 40 1;");
        rates("told", x, 0, 7, 12, 3, 24, 3, 23);
        rates("told", x, 1, 9, 11, 8, 22, 9, 25);
        rates("told", x, 2, 1, 41, -39, 82, -37, 17);
        rates("told", x, 7, 64, 104, 63, 208, 70, 80);
        x.bores(0);
        x.teaches(0);
        rates("BORED or TAUGHT, its SIZE is as it was", x, 0, 7, 12, 3, 24, 3, 23);
        BroomFlood waits = s.of("s1;b5 1 1;b6 3 1;");
        Sentences.minutes(waits, 3);
        rates("DUE in -2, and 15 by 4 are 3", waits, 1, 6, 9, 8, 18, 9, 9);
        s.by("(0 .. 7, there or not; 0 of all, if there never was one)");
        x.halts(1);
        rates("not there", x, 1, 9, 11, 8, 22, 9, 25);
        s.due("seven are there", x.now(4), 253);
        BroomFlood none = s.of("w8;b5 5 5;");
        rates("never there", none, 3, 0, 0, 0, 0, 3, 2);
        rates("never there", none, 7, 0, 0, 0, 0, 7, 2);
        rates("of a new object", new BroomFlood(), 0, 0, 0, 0, 0, 0, 0);
        none.splits(0);
        rates("there", none, 1, 2, 12, -3, 24, -2, 4);
        none.undo();
        rates("undone", none, 1, 0, 0, 0, 0, 1, 2);
    }

    private static void overOneAnother() {
        s.by("KINDS of BROOMS are over one another: 0 BROOM; 1 WET, 2 HALF, 5 TEACHING (each under BROOM); "
            + "3 BORED (under WET); 4 BURNING (under HALF).");
        BroomFlood x = s.of("w50;a3;d2;s1;b7 5 4;b9 2 1;b1 40 40;b30 3 2;b2 2 2;");
        for (int m = 0; m < 6; m++) {
            for (int b = 0; b < 8; b++) {
                int broom = x.broom(b, 0);
                s.due("BROOM", x.rate(0, b), broom);
                s.due("WET under BROOM", x.rate(1, b), broom + x.broom(b, 1));
                s.due("HALF under BROOM", x.rate(2, b), broom - x.broom(b, 2));
                s.due("BORED under WET", x.rate(3, b), 2 * x.rate(1, b));
                s.due("BURNING under HALF", x.rate(4, b), x.rate(2, b) + b);
                s.due("TEACHING under BROOM", x.rate(5, b), broom + x.now(2));
            }
            x.minute();
        }
        s.by("\"up\" is what the KIND above does");
        int[] above = {-1, 0, 0, 1, 2, 0};
        int[] own = {1, 10, 100, 1000, 10000, 100000};
        for (int kind = 0; kind < above.length; kind++) {
            long sum = 0;
            for (int up = kind; up >= 0; up = above[up]) {
                sum += own[up];
            }
            long before = x.trace();
            x.rate(kind, 0);
            s.due("bodies asked by kind " + kind, x.trace() - before, sum);
        }
    }

    private static void lastCall() {
        s.by("An object is used for at most 512 calls after it has been made");
        BroomFlood x = new BroomFlood();
        Sentences.tell(x, "w1;a1;b3 2 1;");
        // 13 letters and cellar() are 14 calls, so there are 498 more.
        for (int call = 15; call <= 511; call++) {
            s.due("call " + call, x.minute(), 1 + 3 * ((call - 13) / 2));
        }
        s.due("call 512", x.now(0), 497);
        // Each that is left brings a cup at 40, so that all sets are tried for so long; 79 calls went ahead.
        BroomFlood dear = s.of("a1;m0;" + "b1 40 40;".repeat(8));
        for (int call = 80; call <= 512; call++) {
            s.due("a dear call", dear.burn(60), 255);
        }
    }

    private static void trace() {
        s.by("numbers in brackets are added to THE TRACE, 0 at first, as often as rate() asks that body: each once");
        BroomFlood x = s.of("b7 5 4;");
        s.due("at first", x.trace(), 0);
        long sum = 0;
        for (int kind = 0; kind < 6; kind++) {
            for (int times = 0; times < 3; times++) {
                x.rate(kind, times);
                sum += ADDED[kind];
                s.due("trace()", x.trace(), sum);
            }
        }
        s.due("asking for it adds nothing", x.trace(), sum);
        s.by("RATE. NO: BAD.");
        int[][] wrong = {{-1, 0}, {6, 0}, {0, -1}, {0, 8}, {6, 8}, {-1, -1}, {Integer.MAX_VALUE, 0}, {0, Integer.MIN_VALUE}};
        for (int[] w : wrong) {
            s.due("rate(" + w[0] + ", " + w[1] + ")", x.rate(w[0], w[1]), NO);
            s.due("nothing is added", x.trace(), sum);
        }
        s.by("THE TRACE goes on, as behind undo(), back().");
        x.keep(0);
        x.minute();
        x.rate(0, 0);
        x.undo();
        s.due("behind undo()", x.trace(), sum + 1);
        x.rate(0, 0);
        x.back(0);
        s.due("behind back()", x.trace(), sum + 2);
        x.rate(0, 0);
        x.cellar();
        s.due("read anew", x.trace(), sum + 3);
        Sentences.tell(x, "x");
        s.due("behind a fault", x.trace(), sum + 3);
        BroomFlood far = s.of("b7 5 4;");
        for (int i = 0; i < 480; i++) {
            far.rate(5, 0);
        }
        s.due("as often as can be", far.trace(), 480L * 100001);
    }

    private static void images() {
        s.by("An IMAGE is kept: MINUTES. BAD.");
        BroomFlood x = s.of("w8;a1;b4 1 1;b8 2 2;");
        s.due("keep(-1)", x.keep(-1), BAD);
        s.due("keep(2)", x.keep(2), BAD);
        s.by("All of that becomes as an IMAGE has it: MINUTES. BAD; STATE: none was kept.");
        s.due("back(0)", x.back(0), STATE);
        s.due("back(1)", x.back(1), STATE);
        s.due("back(2)", x.back(2), BAD);
        s.due("back(-1)", x.back(-1), BAD);
        s.due("keep(1)", x.keep(1), 0);
        s.due("the other one was not kept", x.back(0), STATE);
        Sentences.minutes(x, 3);
        s.due("keep(0)", x.keep(0), 3);
        x.splits(1);
        x.teaches(0);
        x.bores(0);
        x.minute();
        s.due("back(1)", x.back(1), 0);
        s.now("as at first", x, 0, 8, 8, 8, 3, 0);
        s.brooms("as at first", x, 0, 4, 1, 1, 0, 0, 0, 1);
        s.brooms("as at first", x, 1, 8, 2, 2, 0, 0, 0, 1);
        s.brooms("never there", x, 2, 0, 0, 0, 0, 0, 0, 0);
        s.due("back(0)", x.back(0), 3);
        s.now("as in 3", x, 3, 28, 28, 28, 3, 0);
        s.brooms("as in 3", x, 1, 8, 2, 1, 0, 0, 1, 1);
        s.due("keep(1) in its place", x.keep(1), 3);
        x.minute();
        s.due("back(1)", x.back(1), 3);
        x.halts(0);
        x.halts(1);
        s.due("as often as asked", x.back(1), 3);
        s.due("now(4)", x.now(4), 3);
        s.by("nothing else (nothing can be UNDONE behind back())");
        Sentences.minutes(x, 5);
        s.due("now(5)", x.now(5), 5);
        x.measured(1, 12);
        Sentences.type(x, "w4;");
        s.due("back(2) is refused", x.back(2), BAD);
        s.due("now(5) yet", x.now(5), 5);
        s.due("back(0)", x.back(0), 3);
        s.due("now(5)", x.now(5), 0);
        s.due("undo()", x.undo(), STATE);
        s.counts("nothing else", x, 1, 0, 10, 8, 2, 1, 3);
        x.minute();
        s.due("what is done behind", x.undo(), 0);
        s.due("now(0)", x.now(0), 3);
        s.by("IMAGES 0, 1 keep NOW (MINUTES, WATER, PEAK, BROOMS)");
        BroomFlood undoes = s.of("a1;b4 1 1;");
        Sentences.minutes(undoes, 2);
        s.due("keep(0)", undoes.keep(0), 2);
        s.due("keep() undoes nothing", undoes.now(5), 2);
        s.due("undo()", undoes.undo(), 1);
        s.due("the IMAGE stays", undoes.back(0), 2);
        s.now("as kept", undoes, 2, 8, 8, 8, 1, 0);
    }

    private static BroomFlood full() {
        BroomFlood x = s.of("w50;a2;d3;m7;s2;b9 4 2;b8 1 1;");
        x.keep(0);
        x.minute();
        x.keep(1);
        x.splits(0);
        x.measured(1, 1);
        x.rate(1, 1);
        return x;
    }

    private static void readAnew() {
        s.by("(Read anew: as told (what is not told as at first), nothing MEASURED, IMAGES are gone, nothing can be UNDONE;");
        BroomFlood x = full();
        s.due("cellar()", Sentences.tell(x, "a3;b6 5 4;"), 2);
        s.counts("anew", x, 3, 0, 10, 8, 1, 0, 0);
        s.now("anew", x, 0, 0, 0, 0, 1, 0);
        s.brooms("anew", x, 0, 6, 5, 4, 0, 0, 0, 1);
        for (int b = 1; b < 8; b++) {
            s.brooms("never there", x, b, 0, 0, 0, 0, 0, 0, 0);
        }
        s.due("back(0)", x.back(0), STATE);
        s.due("back(1)", x.back(1), STATE);
        s.due("undo()", x.undo(), STATE);
        s.due("splitFirst()", x.splitFirst(), 257);
        s.due("forget()", x.forget(), 0);
        s.due("trace()", x.trace(), 11);
        x.minute();
        s.due("what is done anew", x.undo(), 0);
        BroomFlood faulty = full();
        s.due("cellar()", Sentences.tell(faulty, "a3;b6 5 4"), -19);
        s.due("an IMAGE is not gone by a fault", faulty.back(1), 1);
        s.due("what was MEASURED is not", faulty.forget(), 1);
    }

    private static void counts() {
        s.by("0 AREA, 1 DRAIN, 2 MARK, 3 STAIR, 4 BROOMS told, 5 MEASURED, 6 letters of THE TEXT. BAD.");
        BroomFlood x = s.of("a20;d20;m99;s1;" + "b2 1 1;".repeat(7));
        x.splits(0);
        x.halts(1);
        x.halts(2);
        for (int i = 0; i < 5; i++) {
            x.measured(i, i);
        }
        Sentences.type(x, " ".repeat(201));
        s.counts("full", x, 20, 20, 99, 1, 7, 4, 200);
        s.due("count(7)", x.count(7), BAD);
        s.due("count(-1)", x.count(-1), BAD);
    }

    public static void main(String[] args) throws Exception {
        s = new Sentences();
        kinds();
        overOneAnother();
        lastCall();
        trace();
        images();
        readAnew();
        counts();
        s.end();
    }
}
