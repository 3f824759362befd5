/** The sentences of 'Terms', 2 and of promises 5 to 13 that name an edge: a minute, a split, what is undone. */
public final class DoneSentencesTest {
    private static final String ONE = "b1 1 1;";

    private static Sentences s;

    private static void inOrOut() {
        s.by("A BROOM carries in (0), or out (1), if it was TAUGHT");
        BroomFlood x = s.of("w9;a1;b2 1 1;");
        s.due("broom(0, 3)", x.broom(0, 3), 0);
        s.by("TAUGHT: it carries the other way from now on.");
        s.due("teaches(0)", x.teaches(0), 1);
        s.due("out", x.minute(), 7);
        s.due("out yet", x.minute(), 5);
        s.due("teaches(0) again", x.teaches(0), 0);
        s.due("in", x.minute(), 7);
        s.due("teaches(0) a third time", x.teaches(0), 1);
        s.due("broom(0, 3)", x.broom(0, 3), 1);
        s.by("TAUGHT: what it carries then (0, 1). BAD (not there, too).");
        x.halts(0);
        s.due("teaches(0) halted", x.teaches(0), BroomFlood.BAD);
        s.due("it stays as it was", x.broom(0, 3), 1);
        s.due("teaches(1) never there", x.teaches(1), BroomFlood.BAD);
    }

    private static void dryOrWet() {
        s.by("is DRY till it came first, then WET");
        BroomFlood x = s.of("b2 3 2;");
        int[] wet = {0, 0, 1, 1, 1, 1};
        for (int m = 0; m < wet.length; m++) {
            s.due("broom(0, 5) in " + m, x.broom(0, 5), wet[m]);
            x.minute();
        }
        BroomFlood waits = s.of("s1;b1 1 1;b1 1 1;");
        waits.minute();
        s.due("one that waits is DRY", waits.broom(1, 5), 0);
        s.due("and may be BURNT", waits.burns(1), 1);
        BroomFlood out = s.of("b2 3 1;");
        out.teaches(0);
        out.minute();
        s.due("one that carries out is WET, too", out.broom(0, 5), 1);
    }

    private static void due() {
        s.by("DUE: in how many minutes it comes (0 or less: it waits at the STAIR).");
        BroomFlood x = s.of("s1;b1 1 1;b1 5 1;b1 6 2;");
        int[][] due = {{1, 1, 2}, {1, 0, 1}, {1, -1, 0}, {1, -2, -1}};
        for (int m = 0; m < due.length; m++) {
            for (int b = 0; b < 3; b++) {
                s.due("broom(" + b + ", 2) in " + m, x.broom(b, 2), due[m][b]);
            }
            x.minute();
        }
        s.by("each that is there is DUE in one less");
        x.halts(0);
        x.minute();
        s.due("one that is not there", x.broom(0, 2), 1);
        s.due("the first that waited came", x.broom(1, 2), 5);
        s.due("the other one waits", x.broom(2, 2), -3);
        x.minute();
        s.due("then it is DUE in its PACE again", x.broom(2, 2), 6);
        s.due("one less", x.broom(1, 2), 4);
    }

    private static void stair() {
        s.by("come down the STAIR, by numbers, as many as can");
        for (int wide = 1; wide <= 8; wide++) {
            BroomFlood x = s.of("a1;s" + wide + ";" + "b1 40 1;".repeat(8));
            for (int n = 0; n <= 8; n++) {
                s.due("stands(" + n + "), STAIR " + wide, x.stands(n), Math.min(8, n * wide));
            }
            x.minute();
            for (int b = 0; b < 8; b++) {
                s.due("who came, STAIR " + wide, x.broom(b, 5), b < wide ? 1 : 0);
                s.due("who waits, STAIR " + wide, x.broom(b, 2), b < wide ? 40 : 0);
            }
        }
        BroomFlood sizes = s.of("a1;s3;b1 40 1;b2 40 1;b4 40 1;b8 40 1;b16 40 1;b32 40 1;b64 40 1;b1 40 1;");
        s.due("1 2 4", sizes.minute(), 7);
        s.due("8 16 32", sizes.minute(), 63);
        s.due("64 1", sizes.minute(), 128);
        BroomFlood apart = s.of("a1;s1;b5 40 2;b7 40 1;");
        s.due("one that is not DUE takes no place", apart.minute(), 7);
        s.by("and come in the next MINUTE, if they can by numbers");
        BroomFlood turns = s.of("a1;s1;b1 2 1;b10 40 1;b20 40 1;");
        int[] heights = {1, 11, 12, 32, 33, 33};
        for (int m = 0; m < heights.length; m++) {
            s.due("minute() " + (m + 1), turns.minute(), heights[m]);
        }
    }

    private static void loads() {
        s.by("one that comes in brings its SIZE, half of it (cut) if BORED");
        for (int size = 1; size <= 64; size++) {
            BroomFlood x = s.of("w99;a1;b" + size + " 1 1;");
            s.due("in " + size, x.stands(1), 99 + size);
            x.teaches(0);
            s.due("out " + size, x.stands(1), 99 - size);
            x.bores(0);
            s.due("out, BORED, " + size, x.stands(1), 99 - size / 2);
            x.teaches(0);
            s.due("in, BORED, " + size, x.stands(1), 99 + size / 2);
        }
        BroomFlood nothing = s.of("w3;a1;b1 4 1;");
        nothing.bores(0);
        nothing.minute();
        s.brooms("it comes though it brings nothing", nothing, 0, 1, 4, 4, 0, 1, 1, 1);
        s.by("one that carries out takes so much away, as much as there is at most");
        for (int water = 0; water <= 7; water++) {
            BroomFlood x = s.of("w" + water + ";a1;b5 1 1;");
            x.teaches(0);
            s.due("5 out of " + water, x.minute(), Math.max(0, water - 5));
        }
        BroomFlood ahead = s.of("w3;a1;b5 1 1;b4 1 1;");
        ahead.teaches(0);
        s.due("out ahead of in: 3, 0, 4", ahead.minute(), 4);
        BroomFlood behind = s.of("w3;a1;b5 1 1;b4 1 1;");
        behind.teaches(1);
        s.due("out behind in: 3, 8, 4", behind.minute(), 4);
        s.by("then it is DUE in its PACE again, and WET");
        for (int pace = 1; pace <= 40; pace++) {
            BroomFlood x = s.of("a1;b1 " + pace + " 1;");
            x.minute();
            s.due("DUE of PACE " + pace, x.broom(0, 2), pace);
            s.due("not yet, PACE " + pace, x.stands(pace - 1), 1);
            s.due("again, PACE " + pace, x.stands(pace), 2);
        }
    }

    private static void drain() {
        s.by("Then DRAIN runs off, as much as there is at most.");
        for (int water = 0; water <= 9; water++) {
            for (int cups = 0; cups <= 9; cups++) {
                BroomFlood x = s.of("w" + water + ";a1;d" + cups + ";");
                s.due("price(1, 1) of " + water + ", DRAIN " + cups, x.price(1, 1), Math.min(water, cups));
                s.due("minute() of " + water + ", DRAIN " + cups, x.minute(), Math.max(0, water - cups));
            }
        }
        BroomFlood in = s.of("a1;d6;b4 1 1;");
        s.due("behind those that come", in.price(1, 1), 4);
        s.due("nothing is left", in.minute(), 0);
        BroomFlood out = s.of("w5;a1;d3;b4 1 1;");
        out.teaches(0);
        s.due("behind those that carry out", out.price(1, 1), 1);
    }

    private static void minutesAndPeak() {
        s.by("MINUTES are counted (9999 at most)");
        BroomFlood x = s.of("w9;a1;b1 40 40;");
        for (int m = 1; m <= 9998; m++) {
            x.minute();
        }
        s.due("now(0)", x.now(0), 9998);
        s.due("the last minute()", x.minute(), 9 + 249);
        s.due("now(0)", x.now(0), 9999);
        s.by("A MINUTE: how high it STANDS. STATE: it is MINUTE 9999.");
        s.due("minute()", x.minute(), BroomFlood.STATE);
        s.now("nothing changes", x, 9999, 258, 258, 258, 1, 8);
        s.due("broom(0, 2)", x.broom(0, 2), 1);
        s.due("undo()", x.undo(), 7);
        s.due("now(0)", x.now(0), 9998);
        s.due("minute()", x.minute(), 258);
        s.due("minute()", x.minute(), BroomFlood.STATE);
        s.due("what else is done is not refused", x.halts(0), 0);

        s.by("PEAK: the highest it STOOD behind any MINUTE, and at first.");
        s.due("at first", s.of("w41;a2;").now(3), 20);
        BroomFlood falls = s.of("w40;a1;d20;");
        falls.minute();
        falls.minute();
        s.due("at first counts", falls.now(3), 40);
        BroomFlood within = s.of("a1;d5;b7 40 1;");
        within.minute();
        s.due("behind it, not within", within.now(3), 2);
        within.minute();
        s.due("it stays", within.now(3), 2);
        BroomFlood rises = s.of("a3;b7 1 1;");
        int[] peaks = {0, 2, 4, 7, 9};
        for (int peak : peaks) {
            s.due("PEAK", rises.now(3), peak);
            s.due("what comes", rises.most(200), (rises.now(1) + 1400) / 3);
            s.due("does not count", rises.now(3), peak);
            rises.minute();
        }
    }

    private static void splits() {
        s.by("its SIZE becomes half (cut), its PACE twice (40 at most)");
        for (int size = 2; size <= 64; size++) {
            BroomFlood x = s.of("b" + size + " 3 9;");
            s.due("splits(0) of SIZE " + size, x.splits(0), 1);
            s.brooms("SIZE " + size, x, 0, size / 2, 6, 9, 0, 0, 0, 1);
            s.brooms("SIZE " + size, x, 1, size / 2, 6, 9, 0, 0, 0, 1);
        }
        for (int pace = 1; pace <= 40; pace++) {
            BroomFlood x = s.of("b4 " + pace + " 9;");
            x.splits(0);
            s.due("PACE " + pace, x.broom(0, 1), Math.min(40, 2 * pace));
            s.due("PACE " + pace, x.broom(1, 1), Math.min(40, 2 * pace));
            x.splits(1);
            s.due("twice, PACE " + pace, x.broom(1, 1), Math.min(40, 4 * pace));
        }
        s.by("another one like it (TAUGHT, BORED, WET, DUE alike) is there, too");
        for (int bits = 0; bits < 8; bits++) {
            int wet = bits / 4;
            BroomFlood x = s.of("w9;b8 4 " + (wet == 1 ? 1 : 2) + ";b1 40 40;");
            x.minute();
            if ((bits & 1) != 0) {
                x.teaches(0);
            }
            if ((bits & 2) != 0) {
                x.bores(0);
            }
            s.due("splits(0)", x.splits(0), 2);
            s.brooms("as it is", x, 0, 4, 8, wet == 1 ? 4 : 1, bits & 1, bits / 2 & 1, wet, 1);
            s.brooms("like it", x, 2, 4, 8, wet == 1 ? 4 : 1, bits & 1, bits / 2 & 1, wet, 1);
            s.brooms("others are as they were", x, 1, 1, 40, 39, 0, 0, 0, 1);
        }
        BroomFlood waits = s.of("s1;b1 1 1;b6 7 1;");
        Sentences.minutes(waits, 3);
        s.due("one that waits", waits.splits(1), 2);
        s.brooms("waits as it did", waits, 2, 3, 14, -2, 0, 0, 0, 1);
    }

    private static void firstFree() {
        s.by("as the first number that is free (none was told as it, or it is there no more)");
        for (int told = 1; told <= 7; told++) {
            BroomFlood x = s.of("b2 1 1;".repeat(told));
            s.due("none was told as " + told, x.splits(told - 1), told);
            s.due("now(4)", x.now(4), (2 << told) - 1);
        }
        for (int gone = 0; gone < 8; gone++) {
            BroomFlood halted = s.of("b2 1 1;".repeat(8));
            halted.halts(gone);
            s.due("halted", halted.splits(gone == 3 ? 4 : 3), gone);
            BroomFlood burnt = s.of("b2 1 1;".repeat(8));
            burnt.burns(gone);
            s.due("burnt", burnt.splits(gone == 3 ? 4 : 3), gone);
            BroomFlood nothing = s.of("b2 1 1;".repeat(gone) + ONE + "b2 1 1;".repeat(7 - gone));
            nothing.splits(gone);
            s.due("split to nothing", nothing.splits(gone == 3 ? 4 : 3), gone);
        }
        BroomFlood two = s.of("b8 1 1;b8 1 1;b8 1 1;");
        two.halts(2);
        two.halts(0);
        s.due("the first of two", two.splits(1), 0);
        s.due("then the other", two.splits(1), 2);
        s.due("then one never told", two.splits(1), 3);
        BroomFlood older = s.of("b9 5 1;b8 3 7;");
        older.minute();
        older.teaches(0);
        older.bores(0);
        older.halts(0);
        s.due("splits(1)", older.splits(1), 0);
        s.brooms("nothing of the older one stays", older, 0, 4, 6, 6, 0, 0, 0, 1);
        s.by("SPLIT: the number of the other one (NONE: both are nothing). BAD (not there, too); FULL.");
        BroomFlood full = s.of("b2 3 4;".repeat(8));
        for (int b = 0; b < 8; b++) {
            s.due("splits(" + b + ")", full.splits(b), BroomFlood.FULL);
            s.brooms("as it was", full, b, 2, 3, 4, 0, 0, 0, 1);
        }
        s.due("now(5)", full.now(5), 0);
        s.due("splits(8)", full.splits(8), BroomFlood.BAD);
        s.due("splits(-1)", full.splits(-1), BroomFlood.BAD);
        full.halts(5);
        s.due("splits(5), not there", full.splits(5), BroomFlood.BAD);
        s.due("splits(7)", full.splits(7), 5);
        s.due("FULL again", full.splits(6), BroomFlood.FULL);
    }

    private static void sizeOne() {
        s.by("if its SIZE was 1, it is there no more (what else is told of it stays), and no other one is");
        BroomFlood x = s.of("b1 7 1;b5 6 5;");
        x.minute();
        x.teaches(0);
        x.bores(0);
        s.due("splits(0)", x.splits(0), BroomFlood.NONE);
        s.brooms("what else", x, 0, 1, 7, 7, 1, 1, 1, 0);
        s.due("no other one", x.now(4), 2);
        s.brooms("no other one", x, 2, 0, 0, 0, 0, 0, 0, 0);
        s.due("it may be undone", x.now(5), 4);
        s.due("splits(0) once more", x.splits(0), BroomFlood.BAD);
        BroomFlood eight = s.of(ONE.repeat(8));
        for (int b = 7; b >= 0; b--) {
            s.due("splits(" + b + ") of eight", eight.splits(b), BroomFlood.NONE);
            s.due("now(4)", eight.now(4), (1 << b) - 1);
        }
        s.due("of none", eight.splits(0), BroomFlood.BAD);
        BroomFlood three = s.of("b3 1 1;");
        s.due("3 is 1 and 1", three.splits(0), 1);
        s.due("then nothing", three.splits(0), BroomFlood.NONE);
        s.due("then nothing", three.splits(1), BroomFlood.NONE);
        s.due("now(4)", three.now(4), 0);
    }

    private static void boredForGood() {
        s.by("BORED for good.");
        BroomFlood x = s.of("w9;a1;b8 2 1;");
        x.bores(0);
        x.teaches(0);
        x.minute();
        x.teaches(0);
        x.splits(0);
        s.due("broom(0, 4)", x.broom(0, 4), 1);
        s.due("broom(1, 4)", x.broom(1, 4), 1);
        s.by("BORED: its SIZE. BAD (not there, too); STATE: it is.");
        s.due("bores(0)", x.bores(0), BroomFlood.STATE);
        s.due("bores(1)", x.bores(1), BroomFlood.STATE);
        s.due("bores(2)", x.bores(2), BroomFlood.BAD);
        s.due("now(5)", x.now(5), 5);
        x.halts(0);
        s.due("bores(0), halted", x.bores(0), BroomFlood.BAD);
        for (int size = 1; size <= 64; size += 9) {
            BroomFlood y = s.of("b" + size + " 1 1;");
            s.due("bores(0)", y.bores(0), size);
            s.due("SIZE stays", y.broom(0, 0), size);
        }
    }

    private static void burntAndHalted() {
        s.by("BURNT: how many are there yet. BAD (not there, too); STATE: it is WET.");
        BroomFlood x = s.of("b1 9 1;b2 9 2;b3 9 9;b4 9 9;");
        x.minute();
        s.due("burns(0)", x.burns(0), BroomFlood.STATE);
        s.due("it is there", x.broom(0, 6), 1);
        s.due("burns(1), DUE in 1", x.burns(1), 3);
        s.due("burns(1) again", x.burns(1), BroomFlood.BAD);
        x.minute();
        s.due("it never came", x.broom(1, 5), 0);
        s.due("burns(2)", x.burns(2), 2);
        x.halts(0);
        s.due("WET and not there", x.burns(0), BroomFlood.BAD);
        s.due("the last one", x.burns(3), 0);
        s.by("HALTED: how many are there yet. BAD (not there, too).");
        BroomFlood y = s.of("b1 9 1;b2 9 2;b3 9 9;");
        y.minute();
        s.due("halts(0), WET", y.halts(0), 2);
        s.due("halts(0) again", y.halts(0), BroomFlood.BAD);
        s.due("halts(1), DRY", y.halts(1), 1);
        s.due("halts(2)", y.halts(2), 0);
        s.due("halts(3), never there", y.halts(3), BroomFlood.BAD);
        s.by("HALTED: any one is there no more.");
        s.brooms("all else stays", y, 0, 1, 9, 9, 0, 0, 1, 0);
        s.brooms("all else stays", y, 1, 2, 9, 1, 0, 0, 0, 0);
    }

    /** The first of three, WET if not DRY, that was made to be there no more in one of three ways. */
    private static BroomFlood without(int way) {
        BroomFlood x = s.of("a1;s1;" + (way == 0 ? "b1 2 2;" : "b1 2 1;") + "b3 2 2;b4 40 2;");
        x.minute();
        int answer = way == 0 ? x.burns(0) : way == 1 ? x.splits(0) : x.halts(0);
        s.due("way " + way, answer, way == 1 ? BroomFlood.NONE : 2);
        return x;
    }

    private static void thereOrNot() {
        s.by("is there, or not (BURNT, split to nothing, HALTED)");
        for (int way = 0; way < 3; way++) {
            BroomFlood x = without(way);
            int wet = way == 0 ? 0 : 1;
            s.brooms("what else is told of it stays", x, 0, 1, 2, way == 0 ? 1 : 2, 0, 0, wet, 0);
            s.due("now(4)", x.now(4), 6);
            s.due("it does not flow: 3 by 2, 4 by 40", x.flow(0), 8);
            s.due("it does not flow: 3 by 2, 4 by 40", x.flow(1), 5);
            s.due("the others have the STAIR", x.stands(1) - x.stands(0), 3);
            s.due("it need not hear: the others come in 1, then one waits, and comes alone", x.heard(1), BroomFlood.NONE);
            int[] refused = {x.splits(0), x.teaches(0), x.bores(0), x.burns(0), x.halts(0), x.heard(0), x.splitOn(0, 0, 0),
                x.odds(0, 0, 0, 0, 0)};
            for (int answer : refused) {
                s.due("of one that is not there", answer, BroomFlood.BAD);
            }
            Sentences.minutes(x, 3);
            s.brooms("it never comes again", x, 0, 1, 2, way == 0 ? 1 : 2, 0, 0, wet, 0);
            s.due("3, 4, 3", x.now(1), wet + 10);
        }
        s.by("BURNT: a DRY one is there no more.");
        s.brooms("DRY yet", without(0), 0, 1, 2, 1, 0, 0, 0, 0);
    }

    private static void others() {
        s.by("those that are DUE in 0 or less come down the STAIR, by numbers, as many as can (the others wait: they are DUE "
            + "in 0 or less then, and come in the next MINUTE, if they can by numbers)");
        // The first has one place each MINUTE, the second and the third take turns on the other, the fourth never comes.
        BroomFlood x = s.of("a1;s2;b1 1 1;b1 2 1;b1 2 1;b1 9 1;");
        int[] came = {3, 5, 3, 5, 3, 5};
        int before = 0;
        for (int m = 0; m < came.length; m++) {
            s.due("two come in " + (m + 1), x.minute() - before, 2);
            before += 2;
            for (int b = 0; b < 3; b++) {
                boolean comes = (came[m] >> b & 1) == 1;
                s.due("DUE of " + b + " behind " + (m + 1), x.broom(b, 2), comes ? (b == 0 ? 1 : 2) : (m == 0 ? 0 : 1));
            }
            s.due("the last one waits " + (m + 1), x.broom(3, 2), -m);
            s.due("it is DRY", x.broom(3, 5), 0);
        }
    }

    private static BroomFlood busy() {
        BroomFlood x = s.of("w7;a2;d1;s2;b9 2 1;b8 3 2;b1 1 9;b6 4 1;");
        x.measured(2, 3);
        Sentences.minutes(x, 2);
        x.keep(1);
        Sentences.type(x, "w1;");
        return x;
    }

    private static int done(BroomFlood x, int which) {
        switch (which) {
            case 0: return x.minute();
            case 1: return x.splits(0);
            case 2: return x.teaches(1);
            case 3: return x.bores(3);
            case 4: return x.burns(2);
            case 5: return x.halts(0);
            default: return x.splits(2);
        }
    }

    private static void undone() {
        s.by("UNDONE: the latest minute(), splits(), teaches(), bores(), burns(), halts() that was not refused");
        for (int which = 0; which <= 6; which++) {
            BroomFlood x = busy();
            s.due("not refused, " + which, done(x, which) >= 0 || which == 6 ? 1 : 0, 1);
            s.due("now(5), " + which, x.now(5), 3);
            s.due("undo(), " + which, x.undo(), 2);
            s.sameThrough("undone, " + which, x, busy());
        }
        for (int first = 0; first <= 6; first++) {
            for (int then = 0; then <= 6; then++) {
                BroomFlood x = busy();
                BroomFlood y = busy();
                done(x, first);
                done(y, first);
                if (done(x, then) >= 0) {
                    x.undo();
                    s.sameThrough("undone " + then + " behind " + first, x, y);
                }
            }
        }
        s.by("(8 are known, older ones are lost)");
        BroomFlood x = s.of("a1;b1 1 1;");
        for (int m = 1; m <= 20; m++) {
            x.minute();
            s.due("now(5)", x.now(5), Math.min(8, m));
        }
        for (int left = 7; left >= 0; left--) {
            s.due("undo()", x.undo(), left);
            s.due("now(0)", x.now(0), 12 + left);
            s.due("now(1)", x.now(1), 12 + left);
            s.due("now(3)", x.now(3), 12 + left);
        }
        s.by("UNDONE: how many more may be. STATE: none.");
        s.due("undo()", x.undo(), BroomFlood.STATE);
        s.now("nothing changes", x, 12, 12, 12, 12, 1, 0);
        s.due("undo() of a new one", new BroomFlood().undo(), BroomFlood.STATE);
        Sentences.minutes(x, 3);
        s.due("anew", x.undo(), 2);
        s.due("what was done behind", x.minute() + x.minute(), 15 + 16);
        for (int left = 3; left >= 0; left--) {
            s.due("undo()", x.undo(), left);
            s.due("now(0)", x.now(0), 12 + left);
        }
    }

    private static void notUndone() {
        s.by("that was not refused (8 are known, older ones are lost)");
        BroomFlood x = s.of("s1;b2 1 1;b1 1 1;b1 1 1;");
        x.minute();
        x.bores(0);
        int[] refused = {x.splits(3), x.teaches(3), x.bores(3), x.burns(3), x.halts(3), x.bores(0), x.burns(0)};
        for (int answer : refused) {
            s.due("refused", answer < 0 ? 1 : 0, 1);
        }
        s.due("none of these", x.now(5), 2);
        x.keep(0);
        x.measured(1, 1);
        x.type('w');
        x.clear();
        x.forget();
        x.rate(0, 0);
        x.stands(5);
        x.teach(5);
        s.due("nor of these", x.now(5), 2);
        s.due("undo() is none itself", x.undo(), 1);
        s.due("now(5)", x.now(5), 1);
        s.due("bored no more", x.broom(0, 4), 0);
    }

    private static void asked() {
        s.by("Of a BROOM (0 .. 7): 0 SIZE, 1 PACE, 2 DUE, 3 carries in 0, out 1, 4 whether BORED, 5 WET, 6 there "
            + "(0 of all, if there never was one). BAD.");
        BroomFlood x = s.of("b5 6 7;".repeat(8));
        s.brooms("the last one", x, 7, 5, 6, 7, 0, 0, 0, 1);
        s.brooms("of none", s.of("b5 6 7;".repeat(7)), 7, 0, 0, 0, 0, 0, 0, 0);
        BroomFlood undone = s.of("b4 1 1;");
        undone.splits(0);
        undone.undo();
        s.brooms("undone, it never was", undone, 1, 0, 0, 0, 0, 0, 0, 0);
        s.by("0 MINUTES, 1 WATER, 2 how high it STANDS, 3 PEAK, 4 BROOMS that are there (bits), 5 how many may be UNDONE. BAD.");
        x.halts(0);
        x.halts(7);
        s.now("two are gone", x, 0, 0, 0, 0, 126, 2);
        s.due("now(6)", x.now(6), BroomFlood.BAD);
        s.due("now(-1)", x.now(-1), BroomFlood.BAD);
    }

    public static void main(String[] args) throws Exception {
        s = new Sentences();
        inOrOut();
        dryOrWet();
        due();
        stair();
        loads();
        drain();
        minutesAndPeak();
        splits();
        firstFree();
        sizeOne();
        boredForGood();
        burntAndHalted();
        thereOrNot();
        others();
        undone();
        notUndone();
        asked();
        s.end();
    }
}
