/** The sentences of 'Terms', 3 and of promises 14 to 28 that name an edge: what comes, what can be done, sums, odds. */
public final class AskedSentencesTest {
    private static final int NONE = BroomFlood.NONE;
    private static final int BAD = BroomFlood.BAD;

    private static Sentences s;

    private static BroomFlood busy() {
        BroomFlood x = s.of("w7;a2;d1;m9;s2;b9 2 1;b8 3 2;b1 1 9;b6 4 1;");
        x.measured(2, 3);
        Sentences.minutes(x, 2);
        x.keep(1);
        x.teaches(1);
        Sentences.type(x, "w1;");
        return x;
    }

    private static void nothingChanges() {
        s.by("(From NOW on, nothing else being done; nothing is changed.)");
        BroomFlood x = busy();
        for (int round = 0; round < 3; round++) {
            x.stands(200);
            x.above();
            x.most(200);
            x.teach(60);
            x.burn(60);
            x.stair(60);
            x.drain(60);
            x.flow(0);
            x.splitOn(0, 6, 0);
            x.price(9, 200);
            x.heard(3);
            x.splitFirst();
            x.odds(0, 5, 17, 3, 0);
            s.alike("asked", x, busy());
        }
        s.sameThrough("asked", x, busy());
    }

    private static void pastTheLastMinute() {
        s.by("(past MINUTE 9999, too; so wherever MINUTES from NOW are asked)");
        // Both come at 38, 78 .. 9998 and next in 39: two cups then, of which one runs off.
        BroomFlood x = s.of("a1;d1;m0;b1 40 38;b1 40 38;");
        Sentences.minutes(x, 9999);
        s.now("at the last", x, 9999, 0, 0, 1, 3, 8);
        s.due("stands(38)", x.stands(38), 0);
        s.due("stands(39)", x.stands(39), 1);
        s.due("stands(40)", x.stands(40), 0);
        s.due("stands(199)", x.stands(199), 1);
        s.due("above()", x.above(), 39);
        s.due("most(38)", x.most(38), 0);
        s.due("most(39)", x.most(39), 1);
        s.due("teach(38)", x.teach(38), 0);
        s.due("teach(39)", x.teach(39), 1);
        s.due("burn(38)", x.burn(38), 0);
        s.due("burn(39)", x.burn(39), NONE);
        s.due("stair(38)", x.stair(38), 8);
        s.due("stair(39)", x.stair(39), 1);
        s.due("drain(38)", x.drain(38), 0);
        s.due("drain(39)", x.drain(39), 2);
        s.due("price(1, 38)", x.price(1, 38), 0);
        s.due("price(1, 40)", x.price(1, 40), 2);
        s.due("heard(0)", x.heard(0), 39);
        s.due("odds in 38", x.odds(0, 5, 38, 1, 0), 0);
        s.due("odds in 39", x.odds(0, 5, 39, 1, 1), 2);
        s.due("now(0)", x.now(0), 9999);
    }

    private static void stands() {
        s.by("STANDS in n (0 .. 200) MINUTES");
        BroomFlood x = s.of("w3;a2;b1 1 1;");
        for (int n = 0; n <= 200; n++) {
            s.due("stands(" + n + ")", x.stands(n), (3 + n) / 2);
        }
        s.by("`int stands(int n)`: STANDS. BAD.");
        s.due("stands(-1)", x.stands(-1), BAD);
        s.due("stands(201)", x.stands(201), BAD);
        s.by("ABOVE: in how many MINUTES (0 .. 200) it STANDS above MARK first; NONE.");
        s.due("NOW", s.of("w11;a1;d20;").above(), 0);
        s.due("as high as MARK is not above it", s.of("w10;a1;").above(), NONE);
        s.due("nor cut", s.of("w21;a2;").above(), NONE);
        s.due("cut above", s.of("w22;a2;").above(), 0);
        s.due("MARK 0", s.of("m0;w3;").above(), NONE);
        s.due("MARK 0, 1 high", s.of("m0;w4;").above(), 0);
        s.due("MARK 99", s.of("m99;a1;w99;b1 7 7;").above(), 7);
        s.due("in 200", s.of("a1;m4;b1 40 40;").above(), 200);
        // It comes at 1, 41, 81, 121, 161, 201.
        BroomFlood late = s.of("a1;m5;b1 40 1;");
        s.due("in 201", late.above(), NONE);
        late.minute();
        s.due("in 200 then", late.above(), 200);
        BroomFlood falls = s.of("a1;m4;d5;b10 40 3;");
        s.due("first, though it falls again", falls.above(), 3);
        s.due("of no BROOMS", new BroomFlood().above(), NONE);
        s.by("MOST in n (0 .. 200) MINUTES: the highest it STANDS NOW and behind any of them.");
        BroomFlood most = s.of("w40;a1;d20;b50 40 3;");
        int[] highest = {40, 40, 40, 40};
        for (int n = 0; n < highest.length; n++) {
            s.due("most(" + n + ")", most.most(n), highest[n]);
        }
        most.minute();
        s.due("NOW", most.most(0), 20);
        s.due("NOW and the next", most.most(1), 20);
        s.due("then 50, of which 20 run off", most.most(2), 30);
        s.due("to the last", s.of("a1;b7 40 40;").most(200), 35);
        s.due("not the last", s.of("a1;b7 40 40;").most(199), 28);
        s.due("PEAK does not count", peaked().most(200), 0);
        s.by("`int most(int n)`: MOST. BAD.");
        s.due("most(-1)", most.most(-1), BAD);
        s.due("most(201)", most.most(201), BAD);
    }

    private static BroomFlood peaked() {
        BroomFlood x = s.of("w9;a1;d9;");
        x.minute();
        return x;
    }

    private static void toTheSixtieth() {
        s.by("TEACH for n (1 .. 60) MINUTES");
        // The third cup comes in 60.
        BroomFlood x = s.of("a1;m2;b1 20 20;");
        s.due("teach(59)", x.teach(59), 0);
        s.due("teach(60)", x.teach(60), 1);
        s.due("burn(59)", x.burn(59), 0);
        s.due("burn(60)", x.burn(60), 1);
        s.due("stair(59)", x.stair(59), 8);
        s.due("stair(60)", x.stair(60), NONE);
        s.due("drain(59)", x.drain(59), 0);
        s.due("drain(60)", x.drain(60), 1);
        BroomFlood soon = s.of("a1;m0;b1 1 1;");
        s.due("teach(1)", soon.teach(1), 1);
        s.due("burn(1)", soon.burn(1), 1);
        s.due("stair(1)", soon.stair(1), NONE);
        s.due("drain(1)", soon.drain(1), 1);
        int[] wrong = {0, -1, 61, Integer.MIN_VALUE, Integer.MAX_VALUE};
        for (int n : wrong) {
            s.by("TEACH, as bits; NONE. BAD.");
            s.due("teach(" + n + ")", x.teach(n), BAD);
            s.by("BURN, as bits; NONE. BAD.");
            s.due("burn(" + n + ")", x.burn(n), BAD);
            s.by("WIDEST STAIR; NONE. BAD.");
            s.due("stair(" + n + ")", x.stair(n), BAD);
            s.by("LEAST DRAIN; NONE. BAD.");
            s.due("drain(" + n + ")", x.drain(n), BAD);
        }
        s.by("so that it never STANDS above MARK in these (NOW counts)");
        BroomFlood high = s.of("w11;a1;d20;b1 1 1;");
        s.due("teach(1)", high.teach(1), NONE);
        s.due("burn(1)", high.burn(1), NONE);
        s.due("stair(1)", high.stair(1), NONE);
        s.due("drain(1)", high.drain(1), NONE);
        high.minute();
        s.due("teach(60)", high.teach(60), 0);
        BroomFlood at = s.of("w10;a1;");
        s.due("at MARK, teach(60)", at.teach(60), 0);
        s.due("at MARK, burn(60)", at.burn(60), 0);
        s.due("at MARK, stair(60)", at.stair(60), 8);
        s.due("at MARK, drain(60)", at.drain(60), 0);
    }

    private static void fewest() {
        s.by("the fewest BROOMS (bits, that are there and carry in) to be TAUGHT NOW");
        // By the third alone 0 2 6, by the first two 9 7 3; by one of these 9 11 and 9 7 11.
        BroomFlood one = s.of("a1;m10;b4 40 3;b2 40 2;b9 40 1;");
        s.due("one is fewer than two, teach(3)", one.teach(3), 4);
        one.teaches(2);
        s.due("none then", one.teach(3), 0);
        BroomFlood in = s.of("a1;m0;b1 40 1;b1 40 1;b1 40 1;");
        in.teaches(0);
        // Out, in, in: the first takes nothing, so one of the others must take what the other brings.
        s.due("only who carries in", in.teach(1), 4);
        in.halts(2);
        s.due("only who is there", in.teach(1), 2);
        in.halts(1);
        s.due("none is needed", in.teach(1), 0);
        s.by("of as few the least bits; NONE.");
        BroomFlood like = s.of("a1;m3;" + "b2 40 1;".repeat(4));
        s.due("teach(1), out in out in", like.teach(1), 5);
        s.due("burn(1)", like.burn(1), 7);
        s.due("one, though with more bits", s.of("a1;m10;b4 40 1;b4 40 1;b8 40 1;").burn(1), 4);
        s.due("all eight", s.of("a1;m0;" + "b1 40 1;".repeat(8)).burn(1), 255);
        s.due("NOW is too high", s.of("w50;a1;b1 1 1;").teach(60), NONE);
        s.by("BURN likewise, of those that are DRY and there.");
        BroomFlood dry = s.of("w10;a1;b3 40 1;b5 40 2;b5 40 2;b2 40 2;");
        s.due("burn(1)", dry.burn(1), 1);
        s.due("burn(2)", dry.burn(2), 15);
        BroomFlood wet = s.of("a1;m3;b3 1 1;b5 40 2;");
        wet.minute();
        s.due("who is WET can't be", wet.burn(1), NONE);
        wet.teaches(0);
        s.due("who is DRY, 3 out and 5 in", wet.burn(1), 2);
        wet.halts(1);
        s.due("nor who is not there", wet.burn(1), 0);
        BroomFlood out = s.of("a1;m8;s1;b5 2 1;b1 2 2;b9 2 2;");
        out.teaches(1);
        out.teaches(2);
        out.minute();
        s.due("one that takes 1 is ahead of one that takes 9", out.burn(2), 2);
    }

    private static void stairsAndDrains() {
        s.by("WIDEST STAIR (1 .. 8), LEAST DRAIN (0 .. 20), one or the other being told anew");
        for (int mark = 0; mark <= 9; mark++) {
            for (int n = 1; n <= 9; n++) {
                BroomFlood x = s.of("a1;s3;m" + mark + ";" + "b1 40 1;".repeat(8));
                int widest = mark >= 8 ? 8 : mark / n == 0 ? NONE : mark / n;
                s.due("stair(" + n + "), MARK " + mark, x.stair(n), widest);
                s.due("STAIR stays", x.count(3), 3);
            }
        }
        BroomFlood gap = s.of("a1;s8;m4;b5 40 1;b5 40 1;b5 40 1;b5 40 1;");
        gap.teaches(1);
        // By 1 it is 5, by 2 it is 0, by 3 it is 5, by 4 it is 10.
        s.due("neither wider nor narrower", gap.stair(1), 2);
        s.due("the widest, though 1 is told", s.of("s1;").stair(60), 8);
        for (int cups = 1; cups <= 20; cups++) {
            BroomFlood x = s.of("a1;m0;d5;b" + cups + " 1 1;");
            s.due("drain(60) of " + cups, x.drain(60), cups);
            s.due("DRAIN stays", x.count(1), 5);
        }
        s.due("21 are too many", s.of("a1;m0;d20;b21 1 1;").drain(1), NONE);
        s.due("none is needed, though 20 is told", s.of("d20;").drain(60), 0);
        s.due("a narrow STAIR helps", s.of("a1;m0;s1;b20 1 1;b64 1 1;").drain(60), 20);
        s.by("WIDEST STAIR; NONE. BAD.");
        s.due("stair(1)", s.of("a1;m4;b5 1 1;").stair(1), NONE);
        s.by("LEAST DRAIN; NONE. BAD.");
        s.due("drain(1)", s.of("a1;m4;b25 1 1;").drain(1), NONE);
        s.due("drain(1)", s.of("a1;m4;b24 1 1;").drain(1), 20);
    }

    private static long common(long a, long b) {
        return b == 0 ? a : common(b, a % b);
    }

    private static void flow() {
        s.by("SIZE (half, cut, if BORED) by PACE, in less out, together: a fraction in lowest terms");
        for (int size = 1; size <= 64; size += 3) {
            for (int pace = 1; pace <= 40; pace++) {
                BroomFlood x = s.of("b" + size + " " + pace + " 1;");
                s.due("upper of " + size + " by " + pace, x.flow(0), size / common(size, pace));
                s.due("lower of " + size + " by " + pace, x.flow(1), pace / common(size, pace));
                x.bores(0);
                x.teaches(0);
                s.due("upper, out and BORED", x.flow(0), -(size / 2 / common(size / 2, pace)));
                s.due("lower, out and BORED", x.flow(1), pace / common(size / 2, pace));
            }
        }
        s.due("of none, upper", new BroomFlood().flow(0), 0);
        s.due("of none, lower", new BroomFlood().flow(1), 1);
        BroomFlood most = s.of("b64 37 1;b64 31 1;b64 29 1;b64 23 1;b64 19 1;b64 17 1;b64 13 1;b64 35 1;");
        long lower = 37L * 31 * 29 * 23 * 19 * 17 * 13 * 35;
        long upper = 0;
        int[] paces = {37, 31, 29, 23, 19, 17, 13, 35};
        for (int pace : paces) {
            upper += 64 * (lower / pace);
        }
        s.due("upper, far beyond an int", most.flow(0), upper);
        s.due("lower, far beyond an int", most.flow(1), lower);
        s.by("(STAIR, DRAIN do not matter)");
        BroomFlood narrow = s.of("s1;d20;b3 2 1;b3 2 1;b5 1 1;");
        s.due("upper", narrow.flow(0), 8);
        s.due("lower", narrow.flow(1), 1);
        s.by("of all BROOMS that are there");
        narrow.halts(2);
        narrow.splits(0);
        s.due("1 by 4, twice, and 3 by 2", narrow.flow(0), 2);
        narrow.teaches(1);
        s.due("upper", narrow.flow(0), -1);
        s.due("lower", narrow.flow(1), 1);
        s.by("FLOW: upper (what = 0), lower number (1). NO: BAD.");
        int[] wrong = {-1, 2, Integer.MIN_VALUE, Integer.MAX_VALUE};
        for (int what : wrong) {
            s.due("flow(" + what + ")", narrow.flow(what), BroomFlood.NO);
        }
    }

    private static void splitOn() {
        s.by("all that come of it split, k times over (each as SPLIT has it, as if there were room for all)");
        for (int size = 1; size <= 64; size++) {
            BroomFlood x = s.of(("b" + size + " 3 2;").repeat(8));
            int many = 1;
            int each = size;
            for (int k = 0; k <= 6; k++) {
                s.due("how many, SIZE " + size + ", k " + k, x.splitOn(7, k, 0), many);
                s.due("cups, SIZE " + size + ", k " + k, x.splitOn(7, k, 1), many * each);
                many = each == 1 || many == 0 ? 0 : 2 * many;
                each = each / 2;
            }
        }
        BroomFlood real = s.of("b13 3 2;");
        int[] bits = {1, 3, 15, 255};
        for (int k = 0; k < 3; k++) {
            s.due("as it is, k " + k, s.of("b13 3 2;").splitOn(0, k, 0), Integer.bitCount(real.now(4)));
            for (int b = 0; b < 1 << k; b++) {
                real.splits(b);
            }
            s.due("now(4)", real.now(4), bits[k + 1]);
        }
        s.by("how many cups they carry in all, each once (BORED or not)");
        BroomFlood bored = s.of("b13 3 2;");
        bored.bores(0);
        s.due("BORED, k 0", bored.splitOn(0, 0, 1), 13);
        s.due("BORED, k 2", bored.splitOn(0, 2, 1), 12);
        bored.teaches(0);
        s.due("out, too", bored.splitOn(0, 3, 1), 8);
        s.by("SPLIT ON: how many (what = 0), cups (1). BAD (not there, too).");
        s.due("never there", bored.splitOn(1, 0, 0), BAD);
        bored.halts(0);
        s.due("halted", bored.splitOn(0, 0, 0), BAD);
    }

    private static void measured() {
        s.by("MEASURED (4 at most): WATER was v (0 .. 99999) in the i-th MINUTE (0 .. 40) from the beginning "
            + "(as told; nothing done).");
        BroomFlood x = s.of("w5;b2 3 1;");
        s.due("measured(0, 0)", x.measured(0, 0), 1);
        s.due("measured(40, 99999)", x.measured(40, 99999), 2);
        int[][] wrong = {{-1, 5}, {41, 5}, {5, -1}, {5, 100000}};
        for (int[] w : wrong) {
            s.due("measured(" + w[0] + ", " + w[1] + ")", x.measured(w[0], w[1]), BAD);
        }
        s.due("count(5)", x.count(5), 2);
        s.due("measured(0, 99999)", x.measured(0, 99999), 3);
        s.due("measured(40, 0)", x.measured(40, 0), 4);
        s.by("MEASURED: how much there is. BAD; FULL.");
        s.due("a fifth", x.measured(1, 1), BroomFlood.FULL);
        for (int[] w : wrong) {
            s.due("measured(" + w[0] + ", " + w[1] + ") when full", x.measured(w[0], w[1]), BAD);
        }
        s.due("count(5)", x.count(5), 4);
        s.by("Nothing was MEASURED: how much there was.");
        s.due("forget()", x.forget(), 4);
        s.due("forget() of none", x.forget(), 0);
        s.due("count(5)", x.count(5), 0);
        s.due("measured() anew", x.measured(0, 5), 1);
        s.due("nothing older counts", x.splitFirst(), 257);
        s.by("from the beginning (as told; nothing done)");
        Sentences.minutes(x, 4);
        x.bores(0);
        x.splits(0);
        s.due("in the 0th it was 5", x.splitFirst(), 257);
        x.measured(4, 9);
        s.due("in the 4th 5 2 2 cups", x.splitFirst(), 256);
    }

    private static void splitFirst() {
        s.by("BROOMS told (bits) of which one, SPLIT at the very beginning (of eight none but one of SIZE 1 can be), "
            + "makes all of it so");
        s.due("of no BROOMS", new BroomFlood().splitFirst(), 256);
        for (int told = 1; told <= 8; told++) {
            BroomFlood x = s.of("b1 40 1;" + "b2 40 1;".repeat(told - 1));
            s.due("nothing measured of " + told, x.splitFirst(), 256 + (told == 8 ? 1 : (1 << told) - 1));
        }
        BroomFlood told = s.of("b8 1 1;b8 1 1;");
        told.splits(0);
        told.halts(1);
        s.due("those told, there or not", told.splitFirst(), 256 + 3);
        for (int i = 0; i <= 40; i++) {
            BroomFlood x = s.of("w9;b2 1 " + Math.max(1, i) + ";b1 40 40;");
            x.measured(i, i == 0 ? 9 : i == 40 ? 12 : 11);
            s.due("in MINUTE " + i, x.splitFirst(), i == 40 ? 256 + 1 : 256 + 3);
            x.measured(i, 8);
            s.due("two at once in MINUTE " + i, x.splitFirst(), 0);
        }
        // Whole: 5 at 1, 10 at 2. In two: 4 at 1, 4 at 2, 8 at 3.
        BroomFlood half = s.of("b5 1 1;b64 40 40;");
        half.measured(1, 4);
        half.measured(2, 4);
        half.measured(3, 8);
        s.due("half, cut, and half as quick", half.splitFirst(), 1);
        BroomFlood gone = s.of("b1 1 1;b3 1 1;");
        gone.measured(1, 3);
        s.due("of SIZE 1 nothing is left, of 3 two are", gone.splitFirst(), 3);
        gone.measured(2, 6);
        s.due("of SIZE 1 nothing is left", gone.splitFirst(), 1);
        BroomFlood stair = s.of("s1;b4 1 1;b7 1 1;");
        stair.measured(1, 2);
        stair.measured(2, 9);
        // Its halves are 0 and 2: the first comes, then the second broom, ahead of the other half.
        s.due("the STAIR counts, by numbers", stair.splitFirst(), 1);
        s.by("256 more, if it is so without.");
        BroomFlood without = s.of("b5 1 1;");
        without.measured(1, 5);
        s.due("without alone", without.splitFirst(), 256);
        without.measured(2, 9);
        s.due("neither", without.splitFirst(), 0);
    }

    private static long power(long base, int times) {
        return times == 0 ? 1 : base * power(base, times - 1);
    }

    private static long choose(int n, int k) {
        return k == 0 ? 1 : choose(n - 1, k - 1) * n / k;
    }

    private static void odds() {
        s.by("ODDS by p (0 .. 10) of a BROOM, n (0 .. 40), k (0 .. 9)");
        BroomFlood x = s.of("b1 1 1;");
        for (int n = 0; n <= 9; n++) {
            for (int p = 0; p <= 10; p++) {
                for (int k = 0; k <= 9; k++) {
                    long upper = 0;
                    for (int j = k; j <= n; j++) {
                        upper += choose(n, j) * power(10 - p, j) * power(p, n - j);
                    }
                    long all = power(10, n);
                    String call = "odds(0, " + p + ", " + n + ", " + k + ")";
                    s.due(call + ", upper", x.odds(0, p, n, k, 0), upper / common(upper, all));
                    s.due(call + ", lower", x.odds(0, p, n, k, 1), all / common(upper, all));
                }
            }
        }
        s.by("it stumbles, by p of 10, each for itself");
        s.due("never", x.odds(0, 0, 9, 9, 0), 1);
        s.due("always", x.odds(0, 10, 9, 1, 0), 0);
        s.due("always, none at least", x.odds(0, 10, 9, 0, 0), 1);
        s.due("7 of 10, not 3", x.odds(0, 3, 1, 1, 0), 7);
        s.due("49 of 100", x.odds(0, 3, 2, 2, 0), 49);
        s.due("49 of 100", x.odds(0, 3, 2, 2, 1), 100);
        s.by("that it did not, k times at least: a fraction.");
        s.due("once or twice of two: 49 and 42", x.odds(0, 3, 2, 1, 0), 91);
        s.due("more often than it comes", x.odds(0, 3, 2, 3, 0), 0);
        s.due("more often than it comes", x.odds(0, 3, 2, 3, 1), 1);
        s.by("(9 times at most; NO for more)");
        for (int n = 10; n <= 40; n++) {
            s.due("upper, n " + n, x.odds(0, 5, n, 0, 0), BroomFlood.NO);
            s.due("lower, n " + n, x.odds(0, 0, n, 9, 1), BroomFlood.NO);
        }
        for (int pace = 1; pace <= 40; pace++) {
            for (int first = 1; first <= 40; first++) {
                BroomFlood y = s.of("b1 " + pace + " " + first + ";");
                int times = (40 - first) / pace + 1;
                s.due("PACE " + pace + ", FIRST " + first, y.odds(0, 5, 40, Math.min(9, times), 1),
                    times > 9 ? BroomFlood.NO : power(2, times));
                s.due("one less than FIRST " + first, y.odds(0, 5, first - 1, 1, 0), 0);
            }
        }
        s.by("each time it comes in the next n MINUTES (as if the STAIR were wide)");
        BroomFlood narrow = s.of("s1;b1 1 1;b1 3 1;");
        for (int m = 0; m <= 3; m++) {
            // It comes in 1, 4, 7 however long it waited.
            s.due("waited " + m, narrow.odds(1, 5, 6, 2, 1), 4);
            s.due("waited " + m, narrow.odds(1, 5, 7, 3, 1), 8);
            s.due("not in 0", narrow.odds(1, 5, 0, 1, 0), 0);
            narrow.minute();
        }
        s.by("ODDS: upper (what = 0), lower number (1), in least terms; NO. BAD (not there, too).");
        s.due("BAD ahead of NO, what", x.odds(0, 5, 10, 0, 2), BAD);
        s.due("BAD ahead of NO, k", x.odds(0, 5, 10, 10, 0), BAD);
        s.due("BAD ahead of NO, p", x.odds(0, 11, 10, 0, 0), BAD);
        s.due("never there", x.odds(1, 5, 5, 0, 0), BAD);
        x.halts(0);
        s.due("halted", x.odds(0, 5, 5, 0, 0), BAD);
    }

    private static void heard() {
        s.by("one that is there hears it NOW");
        BroomFlood alone = s.of("b1 40 40;");
        s.due("alone", alone.heard(0), 0);
        s.by("any other one hears it as it comes in the MINUTE in which one comes who has heard it "
            + "(or one who hears it then)");
        s.due("all at once", s.of("b1 9 3;".repeat(8)).heard(5), 3);
        s.due("by one who heard it of another", s.of("b1 40 2;b1 3 2;b1 40 5;").heard(0), 5);
        // The second hears it at 5; it comes with the third at 2, too early, then at 122.
        s.due("not by one who will hear it", s.of("b1 40 5;b1 3 2;b1 40 2;").heard(0), 122);
        s.due("as wide as three", s.of("s3;b1 2 1;b1 2 1;b1 3 1;").heard(0), 1);
        s.due("the third never comes with another", s.of("s2;b1 2 1;b1 2 1;b1 3 1;").heard(0), NONE);
        s.by("HEARD by a word that goes from BROOM to BROOM: one that is there hears it NOW");
        // The first and the second come at 2, the second and the third at 5, the third and the fourth at 9.
        BroomFlood chain = s.of("b1 40 2;b1 3 2;b1 4 5;b1 40 9;");
        // The first comes at 42, 82 alone, and at 122 with the second, who has it of the third by then.
        int[] all = {9, 9, 122, 122};
        for (int b = 0; b < all.length; b++) {
            s.due("of " + b, chain.heard(b), all[b]);
        }
        chain.teaches(2);
        chain.bores(1);
        s.due("whatever they carry", chain.heard(0), 9);
        s.by("in how many MINUTES (0 .. 200) all that are there have; NONE.");
        s.due("in 200", s.of("b1 11 2;b1 19 10;").heard(0), 200);
        BroomFlood late = s.of("b1 11 3;b1 19 11;");
        s.due("in 201", late.heard(1), NONE);
        late.minute();
        s.due("in 200 then", late.heard(1), 200);
        s.due("never", s.of("b1 2 1;b1 2 2;").heard(1), NONE);
        BroomFlood gone = s.of("b1 2 1;b1 2 2;b1 4 3;");
        gone.halts(1);
        s.due("one that is not there need not", gone.heard(0), 3);
        s.by("HEARD; NONE. BAD (not there, too).");
        s.due("not there", gone.heard(1), BAD);
        s.due("never there", gone.heard(3), BAD);
    }

    private static void price() {
        s.by("PRICE: what a neighbour pays by c (1 .. 9) a cup for all that DRAIN runs off in n (0 .. 200) MINUTES.");
        BroomFlood x = s.of("w3;d2;b1 1 4;");
        int[] cups = {0, 2, 3, 3, 4, 5};
        for (int c = 1; c <= 9; c++) {
            for (int n = 0; n < cups.length; n++) {
                s.due("price(" + c + ", " + n + ")", x.price(c, n), c * cups[n]);
            }
            s.due("price(" + c + ", 200)", x.price(c, 200), c * 200);
        }
        s.due("as much as can be", s.of("d20;b64 1 1;").price(9, 200), 36000);
        s.due("no DRAIN", s.of("w99;b64 1 1;").price(9, 200), 0);
        BroomFlood out = s.of("w9;d2;b5 40 1;");
        out.teaches(0);
        s.due("not what is carried out", out.price(1, 200), 4);
        s.by("PRICE. BAD.");
        int[][] wrong = {{0, 5}, {10, 5}, {1, -1}, {1, 201}};
        for (int[] w : wrong) {
            s.due("price(" + w[0] + ", " + w[1] + ")", x.price(w[0], w[1]), BAD);
        }
    }

    public static void main(String[] args) throws Exception {
        s = new Sentences();
        nothingChanges();
        pastTheLastMinute();
        stands();
        toTheSixtieth();
        fewest();
        stairsAndDrains();
        flow();
        splitOn();
        measured();
        splitFirst();
        odds();
        heard();
        price();
        s.end();
    }
}
