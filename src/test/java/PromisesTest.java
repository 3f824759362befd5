/** Each promise of the document by worked examples: ordinary calls, edges, wrong numbers. */
public final class PromisesTest {
    private static int wrong = 0;

    private static void due(int promise, String call, long got, long want) {
        if (got != want) {
            wrong++;
            System.out.println("promise " + promise + ": " + call + " answered " + got + ", due is " + want);
        }
    }

    private static void typeAll(BroomFlood x, String text) {
        for (char c : text.toCharArray()) {
            x.type(c);
        }
    }

    private static int tell(BroomFlood x, String text) {
        typeAll(x, text);
        return x.cellar();
    }

    private static BroomFlood of(String text) {
        BroomFlood x = new BroomFlood();
        if (tell(x, text) < 0) {
            wrong++;
            System.out.println("not read: " + text);
        }
        return x;
    }

    private static void minutes(BroomFlood x, int n) {
        for (int i = 0; i < n; i++) {
            x.minute();
        }
    }

    private static String brooms(int n, String one) {
        return one.repeat(n);
    }

    private static void p1NewObject() {
        BroomFlood x = new BroomFlood();
        int[] counts = {4, 0, 10, 8, 0, 0, 0};
        for (int i = 0; i < 7; i++) {
            due(1, "count(" + i + ")", x.count(i), counts[i]);
        }
        for (int i = 0; i < 6; i++) {
            due(1, "now(" + i + ")", x.now(i), 0);
        }
        for (int b = 0; b < 8; b++) {
            for (int what = 0; what < 7; what++) {
                due(1, "broom(" + b + ", " + what + ")", x.broom(b, what), 0);
            }
        }
        due(1, "trace()", x.trace(), 0);
        due(1, "undo()", x.undo(), BroomFlood.STATE);
        due(1, "back(0)", x.back(0), BroomFlood.STATE);
        due(1, "back(1)", x.back(1), BroomFlood.STATE);
    }

    private static void p2Type() {
        BroomFlood x = new BroomFlood();
        due(2, "type(0)", x.type(0), 1);
        due(2, "type(255)", x.type(255), 2);
        due(2, "type(-1)", x.type(-1), BroomFlood.BAD);
        due(2, "type(256)", x.type(256), BroomFlood.BAD);
        due(2, "type(least)", x.type(Integer.MIN_VALUE), BroomFlood.BAD);
        for (int i = 3; i <= 200; i++) {
            due(2, "type(32)", x.type(32), i);
        }
        due(2, "type(32) once more", x.type(32), BroomFlood.FULL);
        due(2, "type(256) when full", x.type(256), BroomFlood.BAD);
        due(2, "count(6)", x.count(6), 200);
    }

    private static void p3Clear() {
        BroomFlood x = new BroomFlood();
        due(3, "clear()", x.clear(), 0);
        typeAll(x, "w5;a");
        due(3, "clear()", x.clear(), 4);
        due(3, "count(6)", x.count(6), 0);
        due(3, "clear()", x.clear(), 0);
        due(3, "cellar() of what came behind", tell(x, "w7;"), 1);
        due(3, "now(1)", x.now(1), 7);
    }

    private static void p4Faults() {
        String[] texts = {
            "w5", "w5 ", "w", "w;", ";", "x", "w 5;x", "w5;;", "w05;", "w00;", "w100", "w100;",
            "a0;", "a21;", "d21;", "m100;", "s0;", "s9;", "b65 1 1;", "b1 41 1;", "b1 1 41;",
            "b0 1 1;", "b1 0 1;", "b1 1 0;", "b12 3;", "b1 2 3 4;", "w1 2;", "w w5;", "w1;a2;w3;",
            "5;", "wa1;", "w1a2;", "W5;", "w5:", "a0;x", "b1 1 1;s1;s1;", "  ;", "w5;a", "w5;a   ",
            "b", "b1", "b1 1", "b1 1 1", "b;", "b1 1;", "a1;a", "d1;d1;", "m1;m1;", "w0 0;", "b01 1 1;",
            "b1 1 1b1 1 1;", "w\t5;", "w5;" + (char) 0, "w" + (char) 233 + ";",
            brooms(8, "b1 1 1;") + "b1 1 1;", brooms(8, "b1 1 1;") + "b", brooms(8, "b1 1 1;") + " b99",
            "w" + "1".repeat(199), "w" + "0".repeat(199), " ".repeat(198) + "w1"
        };
        int[] faults = {
            2, 3, 1, 1, 0, 0, 4, 3, 1, 1, 1, 1,
            1, 1, 1, 1, 1, 1, 1, 3, 5,
            1, 3, 5, 5, 7, 3, 2, 6,
            0, 1, 2, 0, 2, 1, 10, 2, 4, 7,
            1, 2, 4, 6, 1, 4, 3, 3, 3, 3, 1,
            6, 1, 3, 1,
            56, 56, 57,
            1, 1, 200
        };
        for (int i = 0; i < texts.length; i++) {
            BroomFlood x = of("w9;b3 2 1;");
            due(4, "cellar() of <" + texts[i] + ">", tell(x, texts[i]), -10 - faults[i]);
            due(4, "count(6) behind a fault", x.count(6), texts[i].length());
            due(4, "now(1) behind a fault", x.now(1), 9);
            due(4, "count(4) behind a fault", x.count(4), 1);
        }
    }

    private static void p4Texts() {
        BroomFlood x = new BroomFlood();
        String[] texts = {
            "", "    ", " ".repeat(200), "w0;", "w99;", "a1;", "a20;", "d0;", "d20;", "m0;", "m99;", "s1;", "s8;",
            "b1 1 1;", "b64 40 40;", " w 5 ; b 1  2   3 ;  ", "s2;m1;d3;a4;w5;", brooms(8, "b1 1 1;"), "b1 1 1;w3;b2 2 2;"
        };
        int[] items = {0, 0, 0, 1, 1, 1, 1, 1, 1, 1, 1, 1, 1, 1, 1, 2, 5, 8, 3};
        for (int i = 0; i < texts.length; i++) {
            due(4, "cellar() of <" + texts[i] + ">", tell(x, texts[i]), items[i]);
            due(4, "count(6)", x.count(6), 0);
        }
        due(4, "now(1)", x.now(1), 3);
        due(4, "broom(1, 0)", x.broom(1, 0), 2);
        due(4, "now(4)", x.now(4), 3);
    }

    private static void p4Anew() {
        BroomFlood x = of("w50;a2;d3;m7;s2;b9 4 2;b8 1 1;");
        int[] told = {2, 3, 7, 2, 2};
        for (int i = 0; i < 5; i++) {
            due(4, "count(" + i + ")", x.count(i), told[i]);
        }
        due(4, "now(3) at first", x.now(3), 25);
        x.minute();
        x.keep(0);
        x.keep(1);
        x.measured(1, 1);
        x.rate(0, 0);
        due(4, "cellar()", x.cellar(), 0);
        int[] first = {4, 0, 10, 8, 0, 0, 0};
        for (int i = 0; i < 7; i++) {
            due(4, "count(" + i + ") anew", x.count(i), first[i]);
        }
        for (int i = 0; i < 6; i++) {
            due(4, "now(" + i + ") anew", x.now(i), 0);
        }
        due(4, "broom(0, 0) anew", x.broom(0, 0), 0);
        for (int what = 0; what < 7; what++) {
            due(4, "broom(1, " + what + ") anew", x.broom(1, what), 0);
        }
        due(4, "back(0) anew", x.back(0), BroomFlood.STATE);
        due(4, "back(1) anew", x.back(1), BroomFlood.STATE);
        due(4, "undo() anew", x.undo(), BroomFlood.STATE);
        due(4, "trace() goes on", x.trace(), 1);
    }

    private static void p5Broom() {
        BroomFlood x = of("b5 3 2;b1 40 40;");
        int[] first = {5, 3, 2, 0, 0, 0, 1};
        int[] second = {1, 40, 40, 0, 0, 0, 1};
        for (int what = 0; what < 7; what++) {
            due(5, "broom(0, " + what + ")", x.broom(0, what), first[what]);
            due(5, "broom(1, " + what + ")", x.broom(1, what), second[what]);
            due(5, "broom(2, " + what + ")", x.broom(2, what), 0);
        }
        minutes(x, 2);
        x.teaches(0);
        x.bores(0);
        x.halts(0);
        int[] gone = {5, 3, 3, 1, 1, 1, 0};
        for (int what = 0; what < 7; what++) {
            due(5, "broom(0, " + what + ") halted", x.broom(0, what), gone[what]);
        }
        int[][] bad = {{-1, 0}, {8, 0}, {0, -1}, {0, 7}, {Integer.MAX_VALUE, 0}, {0, Integer.MIN_VALUE}};
        for (int[] b : bad) {
            due(5, "broom(" + b[0] + ", " + b[1] + ")", x.broom(b[0], b[1]), BroomFlood.BAD);
        }
    }

    private static void p6Now() {
        BroomFlood x = of("w10;a3;d2;s1;b7 2 1;b4 1 1;");
        minutes(x, 3);
        x.halts(0);
        int[] now = {3, 22, 7, 7, 2, 4};
        for (int what = 0; what < 6; what++) {
            due(6, "now(" + what + ")", x.now(what), now[what]);
        }
        due(6, "now(6)", x.now(6), BroomFlood.BAD);
        due(6, "now(-1)", x.now(-1), BroomFlood.BAD);
    }

    private static void p7Minute() {
        BroomFlood x = of("w10;a3;d2;s1;b7 2 1;b4 1 1;");
        due(7, "minute() 1", x.minute(), 5);
        due(7, "the second waits", x.broom(1, 2), 0);
        due(7, "it is dry yet", x.broom(1, 5), 0);
        due(7, "minute() 2", x.minute(), 5);
        due(7, "now(1)", x.now(1), 17);
        due(7, "the second came", x.broom(1, 2), 1);
        due(7, "it is wet", x.broom(1, 5), 1);
        due(7, "minute() 3", x.minute(), 7);
        due(7, "now(1)", x.now(1), 22);

        BroomFlood y = of("w5;a1;d3;b9 1 1;b4 1 1;");
        y.teaches(0);
        due(7, "out ahead of in, 5-9+4-3", y.minute(), 1);
        due(7, "PEAK stays", y.now(3), 5);
        due(7, "the drain takes no more than there is, 0+4-3", y.minute(), 1);
        y.bores(0);
        y.bores(1);
        due(7, "bored, 1-4+2-3", y.minute(), 0);
        due(7, "now(1)", y.now(1), 0);

        BroomFlood z = of("w9;a1;b5 1 1;");
        z.bores(0);
        z.teaches(0);
        due(7, "half is cut, out too", z.minute(), 7);

        BroomFlood full = of("w99;a1;" + brooms(8, "b64 1 1;"));
        due(7, "stands(195)", full.stands(195), 99939);
        due(7, "stands(196)", full.stands(196), 99999);
        full.teaches(7);
        minutes(full, 59);
        due(7, "99 + 259 times 448-64", full.stands(200), 99555);
        full.minute();
        due(7, "never more than 99999, then 64 less", full.stands(200), 99935);
    }

    /** The document frees what comes behind 512 calls; this class counts to 9999 all the same. */
    private static void p7LastMinute() {
        BroomFlood x = of("w9;a1;b1 40 40;");
        minutes(x, 9998);
        due(7, "minute() to 9999", x.minute(), 9 + 249);
        due(7, "minute() at 9999", x.minute(), BroomFlood.STATE);
        due(7, "nothing changes", x.now(0), 9999);
        due(7, "stands() goes past it", x.stands(1), 9 + 250);
    }

    private static void p8Splits() {
        BroomFlood x = of("b9 30 2;b5 1 1;b1 7 1;");
        x.minute();
        x.teaches(1);
        x.bores(1);
        due(8, "splits(1)", x.splits(1), 3);
        int[] half = {2, 2, 1, 1, 1, 1, 1};
        for (int what = 0; what < 7; what++) {
            due(8, "broom(1, " + what + ")", x.broom(1, what), half[what]);
            due(8, "broom(3, " + what + ")", x.broom(3, what), half[what]);
        }
        due(8, "splits(2) of SIZE 1", x.splits(2), BroomFlood.NONE);
        due(8, "it is there no more", x.broom(2, 6), 0);
        due(8, "its SIZE stays", x.broom(2, 0), 1);
        due(8, "its PACE stays", x.broom(2, 1), 7);
        due(8, "splits(0) takes the free number", x.splits(0), 2);
        due(8, "PACE is 40 at most", x.broom(0, 1), 40);
        due(8, "the other is as dry", x.broom(2, 5), 0);
        due(8, "SIZE is cut", x.broom(2, 0), 4);
        due(8, "DUE alike", x.broom(2, 2), 1);
        x.halts(1);
        due(8, "a halted one's number is free, and nothing of it stays", x.splits(0), 1);
        due(8, "broom(1, 3)", x.broom(1, 3), 0);
        due(8, "broom(1, 4)", x.broom(1, 4), 0);
        due(8, "broom(1, 5)", x.broom(1, 5), 0);
        x.halts(0);
        due(8, "0 is a number, too", x.splits(1), 0);
        due(8, "splits(7)", x.splits(7), BroomFlood.BAD);
        due(8, "splits(8)", x.splits(8), BroomFlood.BAD);
        due(8, "splits(-1)", x.splits(-1), BroomFlood.BAD);

        BroomFlood y = of(brooms(7, "b2 1 1;") + "b1 1 1;");
        due(8, "splits(0) of eight", y.splits(0), BroomFlood.FULL);
        due(8, "nothing changed", y.broom(0, 0), 2);
        due(8, "nothing to be undone", y.now(5), 0);
        due(8, "splits(7) of SIZE 1 of eight", y.splits(7), BroomFlood.NONE);
        due(8, "it may be undone", y.now(5), 1);
    }

    private static void p9Teaches() {
        BroomFlood x = of("w9;a1;b2 1 1;");
        due(9, "teaches(0)", x.teaches(0), 1);
        due(9, "minute()", x.minute(), 7);
        due(9, "teaches(0) again", x.teaches(0), 0);
        due(9, "minute()", x.minute(), 9);
        due(9, "teaches(1)", x.teaches(1), BroomFlood.BAD);
        due(9, "teaches(-1)", x.teaches(-1), BroomFlood.BAD);
        due(9, "teaches(8)", x.teaches(8), BroomFlood.BAD);
        x.halts(0);
        due(9, "teaches(0) halted", x.teaches(0), BroomFlood.BAD);
        due(9, "refused ones are not undone", x.now(5), 5);
    }

    private static void p10Bores() {
        BroomFlood x = of("a1;b7 1 1;");
        due(10, "bores(0)", x.bores(0), 7);
        due(10, "bores(0) again", x.bores(0), BroomFlood.STATE);
        due(10, "SIZE stays", x.broom(0, 0), 7);
        due(10, "minute()", x.minute(), 3);
        due(10, "bores(1)", x.bores(1), BroomFlood.BAD);
        due(10, "bores(8)", x.bores(8), BroomFlood.BAD);
        due(10, "bores(-1)", x.bores(-1), BroomFlood.BAD);
        x.halts(0);
        due(10, "BAD ahead of STATE", x.bores(0), BroomFlood.BAD);
    }

    private static void p11Burns() {
        BroomFlood x = of("b7 1 1;b3 1 9;b3 1 9;");
        x.minute();
        due(11, "burns(0) wet", x.burns(0), BroomFlood.STATE);
        due(11, "burns(1)", x.burns(1), 2);
        due(11, "burns(1) again", x.burns(1), BroomFlood.BAD);
        due(11, "DUE stays", x.broom(1, 2), 8);
        x.minute();
        due(11, "DUE stays behind a minute", x.broom(1, 2), 8);
        due(11, "now(4)", x.now(4), 5);
        due(11, "burns(8)", x.burns(8), BroomFlood.BAD);
        due(11, "burns(-1)", x.burns(-1), BroomFlood.BAD);
        x.halts(0);
        due(11, "BAD ahead of STATE", x.burns(0), BroomFlood.BAD);
    }

    private static void p12Halts() {
        BroomFlood x = of("a1;b7 1 1;b3 1 9;");
        x.minute();
        due(12, "halts(0) wet", x.halts(0), 1);
        due(12, "halts(0) again", x.halts(0), BroomFlood.BAD);
        due(12, "it brings nothing", x.minute(), 7);
        due(12, "halts(1) dry", x.halts(1), 0);
        due(12, "halts(2)", x.halts(2), BroomFlood.BAD);
        due(12, "halts(8)", x.halts(8), BroomFlood.BAD);
        due(12, "halts(-1)", x.halts(-1), BroomFlood.BAD);
    }

    private static void p13Undo() {
        BroomFlood x = of("a1;b8 1 1;b3 9 9;");
        x.minute();
        x.splits(0);
        x.teaches(2);
        x.bores(2);
        x.burns(1);
        x.halts(0);
        x.measured(1, 8);
        due(13, "now(5)", x.now(5), 6);
        due(13, "undo() of halts", x.undo(), 5);
        due(13, "now(4)", x.now(4), 7 - 2);
        due(13, "undo() of burns", x.undo(), 4);
        due(13, "now(4)", x.now(4), 7);
        due(13, "undo() of bores", x.undo(), 3);
        due(13, "broom(2, 4)", x.broom(2, 4), 0);
        due(13, "undo() of teaches", x.undo(), 2);
        due(13, "broom(2, 3)", x.broom(2, 3), 0);
        due(13, "undo() of splits", x.undo(), 1);
        due(13, "broom(0, 0)", x.broom(0, 0), 8);
        due(13, "as if it never was", x.broom(2, 0), 0);
        due(13, "undo() of minute", x.undo(), 0);
        due(13, "now(0)", x.now(0), 0);
        due(13, "now(1)", x.now(1), 0);
        due(13, "PEAK", x.now(3), 0);
        due(13, "broom(0, 5)", x.broom(0, 5), 0);
        due(13, "broom(0, 2)", x.broom(0, 2), 1);
        due(13, "undo() of none", x.undo(), BroomFlood.STATE);
        due(13, "what was measured stays", x.count(5), 1);
        minutes(x, 9);
        due(13, "8 are known", x.now(5), 8);
        for (int i = 7; i >= 0; i--) {
            due(13, "undo()", x.undo(), i);
        }
        due(13, "the ninth is lost", x.undo(), BroomFlood.STATE);
        due(13, "now(0)", x.now(0), 1);
        minutes(x, 3);
        x.undo();
        x.minute();
        due(13, "undo() goes on behind undo()", x.undo(), 2);
        due(13, "now(0)", x.now(0), 3);
    }

    private static void p14to16WhatComes() {
        BroomFlood x = of("w10;a3;d2;m6;s1;b7 2 1;b4 1 1;");
        int[] heights = {3, 5, 5, 7};
        int[] highest = {3, 5, 5, 7};
        for (int n = 0; n < 4; n++) {
            due(14, "stands(" + n + ")", x.stands(n), heights[n]);
            due(16, "most(" + n + ")", x.most(n), highest[n]);
        }
        due(15, "above()", x.above(), 3);
        due(14, "nothing changes", x.now(0), 0);
        due(14, "nothing changes", x.now(1), 10);
        due(14, "stands(-1)", x.stands(-1), BroomFlood.BAD);
        due(14, "stands(201)", x.stands(201), BroomFlood.BAD);
        due(16, "most(-1)", x.most(-1), BroomFlood.BAD);
        due(16, "most(201)", x.most(201), BroomFlood.BAD);

        BroomFlood falls = of("w40;a1;d3;");
        due(16, "most(200) NOW", falls.most(200), 40);
        due(14, "stands(200)", falls.stands(200), 0);
        due(15, "above() NOW", falls.above(), 0);
        falls.minute();
        due(16, "most(0)", falls.most(0), 37);

        BroomFlood late = of("a1;m0;b1 40 40;");
        due(15, "above()", late.above(), 40);
        BroomFlood slow = of("a1;m4;b1 40 40;");
        due(15, "above() at 200", slow.above(), 200);
        BroomFlood never = of("a1;m5;b1 40 40;");
        due(15, "above() beyond 200", never.above(), BroomFlood.NONE);
        due(15, "at the mark is not above", of("w10;a1;").above(), BroomFlood.NONE);
    }

    private static void p17Teach() {
        BroomFlood x = of("w0;a1;m10;b6 1 1;b6 1 1;b9 1 3;");
        due(17, "teach(1)", x.teach(1), 1);
        due(17, "teach(2)", x.teach(2), 1);
        due(17, "teach(60)", x.teach(60), 3);
        due(17, "nothing changes", x.broom(0, 3), 0);
        due(17, "teach(0)", x.teach(0), BroomFlood.BAD);
        due(17, "teach(61)", x.teach(61), BroomFlood.BAD);
        x.teaches(0);
        due(17, "teach(2), one is", x.teach(2), 0);
        due(17, "of as few the least bits, none that is", x.teach(60), 2);
        x.halts(1);
        due(17, "none that is not there", x.teach(60), 4);
        BroomFlood high = of("w50;a1;d20;b6 1 1;");
        due(17, "NOW counts", high.teach(5), BroomFlood.NONE);
        BroomFlood wet = of("a1;m9;b1 1 1;b20 1 2;");
        due(17, "not the least bits, but as few", wet.teach(2), 2);
        BroomFlood eight = of("a1;m0;" + brooms(8, "b5 1 1;"));
        due(17, "5 in, then 5 out, in turn", eight.teach(60), 170);
        StringBuilder turns = new StringBuilder("a1;m0;");
        for (int i = 1; i <= 8; i++) {
            turns.append("b5 8 ").append(i).append(';');
        }
        due(17, "one each minute, all eight", of(turns.toString()).teach(60), 255);
    }

    private static void p18Burn() {
        BroomFlood x = of("a1;m10;b6 1 1;b6 1 2;b9 1 3;");
        due(18, "burn(1)", x.burn(1), 0);
        due(18, "burn(2)", x.burn(2), 1);
        due(18, "burn(3)", x.burn(3), 3);
        due(18, "burn(60)", x.burn(60), 7);
        due(18, "burn(0)", x.burn(0), BroomFlood.BAD);
        due(18, "burn(61)", x.burn(61), BroomFlood.BAD);
        x.minute();
        due(18, "a wet one can't be, 6+6+6", x.burn(1), BroomFlood.NONE);
        due(18, "nothing changes", x.now(4), 7);
        BroomFlood y = of("w10;a1;d9;m15;s1;b9 1 1;b20 1 1;");
        due(18, "the first blocks the stair", y.burn(60), 0);
        due(18, "nothing else is due", of("a1;").burn(1), 0);
        BroomFlood out = of("a1;m9;s1;b9 1 1;b9 1 1;");
        out.teaches(0);
        due(18, "out blocks the stair", out.burn(60), 0);
        BroomFlood high = of("w50;a1;d20;b6 1 1;");
        due(18, "all eight", of("a1;m0;" + brooms(8, "b5 1 1;")).burn(60), 255);
        due(18, "NOW counts", high.burn(5), BroomFlood.NONE);
        BroomFlood taught = of("a1;m5;s1;b1 1 2;b6 1 1;");
        taught.teaches(0);
        due(18, "the second comes at once", taught.burn(1), 2);
    }

    private static void p19Stair() {
        BroomFlood x = of("a1;d6;m10;s8;" + brooms(4, "b6 1 1;"));
        due(19, "stair(1) 12-6, 18-6, 24-6", x.stair(1), 2);
        due(19, "stair(2)", x.stair(2), 1);
        due(19, "stair(60)", x.stair(60), 1);
        due(19, "nothing changes", x.count(3), 8);
        due(19, "stair(0)", x.stair(0), BroomFlood.BAD);
        due(19, "stair(61)", x.stair(61), BroomFlood.BAD);
        due(19, "the told STAIR does not matter", of("s1;").stair(60), 8);
        due(19, "NONE", of("a1;m1;b5 1 1;").stair(1), BroomFlood.NONE);
        due(19, "NOW counts", of("w50;a1;d20;m40;").stair(1), BroomFlood.NONE);
    }

    private static void p20Drain() {
        BroomFlood x = of("a1;d20;m10;b6 1 1;b6 1 1;");
        due(20, "drain(1)", x.drain(1), 2);
        due(20, "drain(2)", x.drain(2), 7);
        due(20, "drain(60) 10, then 10+12-12", x.drain(60), 12);
        due(20, "nothing changes", x.count(1), 20);
        due(20, "drain(0)", x.drain(0), BroomFlood.BAD);
        due(20, "drain(61)", x.drain(61), BroomFlood.BAD);
        due(20, "none is needed", of("d9;").drain(60), 0);
        due(20, "20 do", of("a1;m0;b20 1 1;").drain(60), 20);
        due(20, "NONE", of("a1;m0;b21 1 1;").drain(60), BroomFlood.NONE);
        due(20, "NOW counts", of("w50;a1;d20;m40;").drain(1), BroomFlood.NONE);
    }

    private static void p21Flow() {
        BroomFlood x = of("d9;s1;b12 3 1;b7 2 2;b5 6 4;");
        due(21, "4 + 7/2 + 5/6", x.flow(0), 25);
        due(21, "lower", x.flow(1), 3);
        x.bores(1);
        due(21, "4 + 3/2 + 5/6", x.flow(0), 19);
        due(21, "lower", x.flow(1), 3);
        x.teaches(0);
        due(21, "3/2 + 5/6 - 4", x.flow(0), -5);
        due(21, "lower", x.flow(1), 3);
        x.halts(2);
        x.halts(1);
        due(21, "-4", x.flow(0), -4);
        due(21, "lower", x.flow(1), 1);
        x.halts(0);
        due(21, "none", x.flow(0), 0);
        due(21, "lower", x.flow(1), 1);
        due(21, "flow(2)", x.flow(2), BroomFlood.NO);
        due(21, "flow(-1)", x.flow(-1), BroomFlood.NO);
        BroomFlood y = of("b1 37 1;b1 31 1;b1 29 1;b1 23 1;b1 19 1;b1 17 1;b1 13 1;b1 32 1;");
        due(21, "beyond an int", y.flow(1), 37L * 31 * 29 * 23 * 19 * 17 * 13 * 32);
        BroomFlood z = of("b3 2 1;b3 2 1;");
        z.teaches(1);
        due(21, "nothing in all", z.flow(0), 0);
        due(21, "lower of nothing", z.flow(1), 1);
    }

    private static void p22SplitOn() {
        BroomFlood x = of("b13 3 1;b64 1 1;b1 1 1;");
        int[] many = {1, 2, 4, 8, 0, 0, 0};
        int[] cups = {13, 12, 12, 8, 0, 0, 0};
        for (int k = 0; k <= 6; k++) {
            due(22, "splitOn(0, " + k + ", 0)", x.splitOn(0, k, 0), many[k]);
            due(22, "splitOn(0, " + k + ", 1)", x.splitOn(0, k, 1), cups[k]);
        }
        due(22, "splitOn(1, 6, 0)", x.splitOn(1, 6, 0), 64);
        due(22, "splitOn(1, 6, 1)", x.splitOn(1, 6, 1), 64);
        due(22, "splitOn(2, 1, 0)", x.splitOn(2, 1, 0), 0);
        x.bores(0);
        due(22, "BORED or not", x.splitOn(0, 1, 1), 12);
        int[][] bad = {{3, 0, 0}, {-1, 0, 0}, {8, 0, 0}, {0, -1, 0}, {0, 7, 0}, {0, 0, -1}, {0, 0, 2}};
        for (int[] b : bad) {
            due(22, "splitOn(" + b[0] + ", " + b[1] + ", " + b[2] + ")", x.splitOn(b[0], b[1], b[2]), BroomFlood.BAD);
        }
        x.halts(0);
        due(22, "not there", x.splitOn(0, 0, 0), BroomFlood.BAD);
    }

    private static void p23Price() {
        BroomFlood x = of("w5;d3;b4 2 3;");
        int[] cups = {0, 3, 5, 8, 9, 12, 13};
        for (int n = 0; n < cups.length; n++) {
            due(23, "price(1, " + n + ")", x.price(1, n), cups[n]);
            due(23, "price(9, " + n + ")", x.price(9, n), 9 * cups[n]);
        }
        due(23, "nothing changes", x.now(1), 5);
        int[][] bad = {{0, 1}, {10, 1}, {1, -1}, {1, 201}};
        for (int[] b : bad) {
            due(23, "price(" + b[0] + ", " + b[1] + ")", x.price(b[0], b[1]), BroomFlood.BAD);
        }
        due(23, "price(9, 200)", of("d20;b20 1 1;").price(9, 200), 36000);
    }

    private static void p24Heard() {
        BroomFlood x = of("b1 2 1;b1 3 1;b1 40 40;b1 4 2;");
        due(24, "heard(2): 1 at 40, 0 by it at 43, 3 by it at 46", x.heard(2), 46);
        x.halts(2);
        due(24, "heard(0): 1 at 1, with 3 at 10", x.heard(0), 10);
        due(24, "nothing changes", x.now(0), 0);
        x.halts(3);
        due(24, "heard(0)", x.heard(0), 1);
        x.halts(1);
        due(24, "heard(0) alone", x.heard(0), 0);
        due(24, "heard(1) not there", x.heard(1), BroomFlood.BAD);
        due(24, "heard(8)", x.heard(8), BroomFlood.BAD);
        due(24, "heard(-1)", x.heard(-1), BroomFlood.BAD);
        due(24, "never together", of("b1 2 1;b1 2 2;").heard(0), BroomFlood.NONE);
        due(24, "one alone can come", of("s1;b1 2 1;b1 2 1;").heard(0), BroomFlood.NONE);
        due(24, "out too", outToo(), 1);
        due(24, "at 199", of("b1 11 1;b1 19 9;").heard(0), 199);
        due(24, "at 200", of("b1 11 2;b1 19 10;").heard(0), 200);
        due(24, "at 201", of("b1 11 3;b1 19 11;").heard(0), BroomFlood.NONE);
    }

    private static int outToo() {
        BroomFlood x = of("b1 2 1;b1 2 1;");
        x.teaches(0);
        return x.heard(1);
    }

    private static void p25to26Measured() {
        BroomFlood x = new BroomFlood();
        due(26, "forget()", x.forget(), 0);
        due(25, "measured(0, 0)", x.measured(0, 0), 1);
        due(25, "measured(40, 99999)", x.measured(40, 99999), 2);
        due(25, "measured(-1, 0)", x.measured(-1, 0), BroomFlood.BAD);
        due(25, "measured(41, 0)", x.measured(41, 0), BroomFlood.BAD);
        due(25, "measured(0, -1)", x.measured(0, -1), BroomFlood.BAD);
        due(25, "measured(0, 100000)", x.measured(0, 100000), BroomFlood.BAD);
        due(25, "measured(0, 0) again", x.measured(0, 0), 3);
        due(25, "measured(1, 0)", x.measured(1, 0), 4);
        due(25, "measured(1, 0)", x.measured(1, 0), BroomFlood.FULL);
        due(25, "BAD ahead of FULL", x.measured(41, 0), BroomFlood.BAD);
        due(25, "count(5)", x.count(5), 4);
        due(26, "forget()", x.forget(), 4);
        due(26, "count(5)", x.count(5), 0);
        due(26, "nothing measured is always so", x.splitFirst(), 256);
    }

    private static void p27SplitFirst() {
        BroomFlood x = of("w3;d1;b5 1 1;b6 2 2;b1 1 3;");
        due(27, "nothing measured", x.splitFirst(), 256 + 7);
        x.measured(0, 3);
        due(27, "as told", x.splitFirst(), 256 + 7);
        x.measured(1, 6);
        due(27, "the first was split, 3+2+2-1", x.splitFirst(), 1);
        x.forget();
        x.measured(1, 7);
        due(27, "it was not, 3+5-1", x.splitFirst(), 256 + 6);
        x.measured(2, 17);
        due(27, "7+5+6-1", x.splitFirst(), 256 + 6);
        x.measured(3, 22);
        due(27, "17+5+1-1", x.splitFirst(), 256 + 2);
        x.measured(4, 27);
        due(27, "22+5+1-1: the second's halves come later", x.splitFirst(), 2);
        minutes(x, 3);
        x.halts(1);
        due(27, "what was done does not matter", x.splitFirst(), 2);
        x.forget();
        x.measured(3, 21);
        due(27, "the third split is nothing", x.splitFirst(), 4);

        BroomFlood eight = of(brooms(3, "b2 1 1;") + brooms(5, "b1 1 1;"));
        due(27, "of eight none but those of SIZE 1", eight.splitFirst(), 256 + 248);
        eight.measured(1, 10);
        due(27, "6+4", eight.splitFirst(), 248);
        BroomFlood last = of("b2 1 40;");
        last.measured(39, 0);
        last.measured(40, 2);
        due(27, "to MINUTE 40", last.splitFirst(), 257);
        last.measured(40, 3);
        due(27, "MINUTE 40 counts", last.splitFirst(), 0);
        BroomFlood both = of("b2 1 1;");
        both.measured(1, 2);
        both.measured(1, 3);
        due(27, "it can't be both", both.splitFirst(), 0);
    }

    private static void p28Odds() {
        BroomFlood x = of("s1;b1 2 1;b1 1 1;b1 40 40;");
        due(28, "comes at 1 3 5, upper", x.odds(0, 3, 5, 2, 0), 98);
        due(28, "784 of 1000, lower", x.odds(0, 3, 5, 2, 1), 125);
        due(28, "comes at 1 3, all", x.odds(0, 3, 4, 2, 0), 49);
        due(28, "49 of 100", x.odds(0, 3, 4, 2, 1), 100);
        due(28, "never in 0", x.odds(0, 3, 0, 1, 0), 0);
        due(28, "0 of 1", x.odds(0, 3, 0, 1, 1), 1);
        due(28, "none at least", x.odds(0, 10, 5, 0, 0), 1);
        due(28, "1 of 1", x.odds(0, 10, 5, 0, 1), 1);
        due(28, "always stumbles", x.odds(0, 10, 5, 1, 0), 0);
        due(28, "never stumbles", x.odds(0, 0, 5, 3, 0), 1);
        due(28, "more than it comes", x.odds(0, 0, 5, 4, 0), 0);
        due(28, "nine times, 7^9", x.odds(1, 3, 9, 9, 0), 40353607);
        due(28, "nine times, 10^9", x.odds(1, 3, 9, 9, 1), 1000000000);
        due(28, "ten times", x.odds(1, 3, 10, 9, 0), BroomFlood.NO);
        due(28, "ten times", x.odds(1, 3, 10, 9, 1), BroomFlood.NO);
        due(28, "once at 40", x.odds(2, 4, 40, 1, 0), 3);
        due(28, "3 of 5", x.odds(2, 4, 40, 1, 1), 5);
        due(28, "not by 39", x.odds(2, 4, 39, 1, 0), 0);
        minutes(x, 1);
        due(28, "it waits", x.broom(1, 2), 0);
        due(28, "and comes at 1 as if the STAIR were wide", x.odds(1, 5, 1, 1, 1), 2);
        int[][] bad = {{3, 1, 1, 1, 0}, {-1, 1, 1, 1, 0}, {8, 1, 1, 1, 0}, {0, -1, 1, 1, 0}, {0, 11, 1, 1, 0},
            {0, 1, -1, 1, 0}, {0, 1, 41, 1, 0}, {0, 1, 1, -1, 0}, {0, 1, 1, 10, 0}, {0, 1, 1, 1, -1}, {0, 1, 1, 1, 2},
            {1, 1, 40, 1, 2}};
        for (int[] b : bad) {
            due(28, "odds of wrong numbers " + java.util.Arrays.toString(b), x.odds(b[0], b[1], b[2], b[3], b[4]), BroomFlood.BAD);
        }
        x.halts(0);
        due(28, "not there", x.odds(0, 1, 1, 1, 0), BroomFlood.BAD);
    }

    private static void p29And33Rate() {
        BroomFlood x = of("w50;a3;b7 5 4;b9 2 1;");
        int[] rates = {9, 11, 8, 22, 9, 25};
        long[] added = {1, 11, 101, 1011, 10101, 100001};
        long sum = 0;
        for (int kind = 0; kind < 6; kind++) {
            due(29, "rate(" + kind + ", 1)", x.rate(kind, 1), rates[kind]);
            sum += added[kind];
            due(33, "trace() behind " + kind, x.trace(), sum);
        }
        due(29, "rate(1, 0)", x.rate(1, 0), 12);
        due(29, "rate(2, 0)", x.rate(2, 0), 3);
        sum += 11 + 101;
        x.halts(1);
        due(29, "there or not", x.rate(1, 1), 11);
        due(29, "never there", x.rate(3, 7), 0);
        due(29, "never there, its number", x.rate(4, 7), 7);
        due(29, "never there, how high", x.rate(5, 7), 16);
        sum += 11 + 1011 + 10101 + 100001;
        int[][] bad = {{-1, 0}, {6, 0}, {0, -1}, {0, 8}};
        for (int[] b : bad) {
            due(29, "rate(" + b[0] + ", " + b[1] + ")", x.rate(b[0], b[1]), BroomFlood.NO);
        }
        due(33, "refused ones add nothing", x.trace(), sum);
        x.keep(0);
        x.rate(0, 0);
        x.back(0);
        due(33, "trace() goes on behind back()", x.trace(), sum + 1);
        x.minute();
        x.rate(0, 0);
        x.undo();
        due(33, "trace() goes on behind undo()", x.trace(), sum + 2);
        x.cellar();
        due(33, "trace() goes on behind cellar()", x.trace(), sum + 2);
    }

    private static void p29Waiting() {
        BroomFlood x = of("s1;b5 1 1;b6 3 1;");
        minutes(x, 3);
        due(29, "DUE below 0", x.rate(2, 1), 6 + 2);
        due(29, "less DUE above SIZE", of("b1 1 40;").rate(2, 0), -39);
    }

    private static void p30to31Images() {
        BroomFlood x = of("w8;a1;b4 1 1;b8 2 2;");
        due(31, "back(0) of none", x.back(0), BroomFlood.STATE);
        due(30, "keep(0)", x.keep(0), 0);
        x.minute();
        x.splits(1);
        due(30, "keep(1)", x.keep(1), 1);
        x.minute();
        x.teaches(0);
        x.bores(0);
        x.measured(1, 12);
        due(31, "back(1)", x.back(1), 1);
        due(31, "WATER", x.now(1), 12);
        due(31, "PEAK", x.now(3), 12);
        due(31, "BROOMS", x.now(4), 7);
        due(31, "taught no more", x.broom(0, 3), 0);
        due(31, "bored no more", x.broom(0, 4), 0);
        due(31, "nothing can be undone", x.undo(), BroomFlood.STATE);
        due(31, "what was measured stays", x.count(5), 1);
        x.minute();
        due(31, "back(0)", x.back(0), 0);
        due(31, "never there", x.broom(2, 0), 0);
        due(31, "WATER", x.now(1), 8);
        due(31, "PEAK", x.now(3), 8);
        due(31, "back(1) once more", x.back(1), 1);
        due(30, "keep(0) anew", x.keep(0), 1);
        x.minute();
        due(31, "back(0) of the new one", x.back(0), 1);
        int[] bad = {-1, 2, Integer.MAX_VALUE};
        for (int b : bad) {
            due(30, "keep(" + b + ")", x.keep(b), BroomFlood.BAD);
            due(31, "back(" + b + ")", x.back(b), BroomFlood.BAD);
        }
        x.minute();
        x.keep(1);
        due(30, "keep() loses nothing that can be undone", x.undo(), 0);
    }

    private static void p32Count() {
        BroomFlood x = of("a7;d6;m5;s4;b8 1 1;b1 1 1;");
        x.splits(0);
        x.halts(1);
        x.measured(1, 1);
        typeAll(x, "abc");
        int[] counts = {7, 6, 5, 4, 2, 1, 3};
        for (int what = 0; what < 7; what++) {
            due(32, "count(" + what + ")", x.count(what), counts[what]);
        }
        due(32, "count(7)", x.count(7), BroomFlood.BAD);
        due(32, "count(-1)", x.count(-1), BroomFlood.BAD);
    }

    public static void main(String[] args) {
        p1NewObject();
        p2Type();
        p3Clear();
        p4Faults();
        p4Texts();
        p4Anew();
        p5Broom();
        p6Now();
        p7Minute();
        p7LastMinute();
        p8Splits();
        p9Teaches();
        p10Bores();
        p11Burns();
        p12Halts();
        p13Undo();
        p14to16WhatComes();
        p17Teach();
        p18Burn();
        p19Stair();
        p20Drain();
        p21Flow();
        p22SplitOn();
        p23Price();
        p24Heard();
        p25to26Measured();
        p27SplitFirst();
        p28Odds();
        p29And33Rate();
        p29Waiting();
        p30to31Images();
        p32Count();
        System.out.println(wrong == 0 ? "all promises hold" : wrong + " answers are not as due");
        if (wrong != 0) {
            System.exit(1);
        }
    }
}
