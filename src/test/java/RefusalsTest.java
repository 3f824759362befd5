import java.util.ArrayList;
import java.util.List;

/**
 * "Refused, and nothing changes, the first of these: BAD (a number is not as told, or there is no such thing),
 * STATE (as told), FULL.": every number of every call at its bounds and beyond them, in several states,
 * each refused call on an object that must be as one that never got it.
 */
public final class RefusalsTest {
    private interface Call {
        long of(BroomFlood x, int[] a);
    }

    /** A call with numbers that are taken in every state of this test, and the bounds of each number. */
    private static final class Bounded {
        final String name;
        final Call call;
        final int[] taken;
        final int[][] bounds;
        final int refusal;

        Bounded(String name, int refusal, Call call, int[] taken, int[]... bounds) {
            this.name = name;
            this.refusal = refusal;
            this.call = call;
            this.taken = taken;
            this.bounds = bounds;
        }

        String with(int[] a) {
            return name + java.util.Arrays.toString(a);
        }
    }

    private static final int BAD = BroomFlood.BAD;
    private static final int STATE = BroomFlood.STATE;
    private static final int FULL = BroomFlood.FULL;
    private static final int NO = BroomFlood.NO;
    private static final int STATES = 5;

    private static Sentences s;

    private static int[] n(int... numbers) {
        return numbers;
    }

    /** In each of these BROOM 0 is there. */
    private static BroomFlood inState(int state) {
        switch (state) {
            case 0:
                return s.of("b2 9 9;");
            case 1: {
                BroomFlood x = s.of("w7;a2;d1;m9;s2;b9 2 1;b8 3 2;b1 1 9;b6 4 1;");
                x.keep(1);
                x.measured(2, 3);
                Sentences.minutes(x, 2);
                x.bores(1);
                x.teaches(3);
                x.halts(1);
                x.rate(4, 0);
                Sentences.type(x, "w5;");
                return x;
            }
            case 2: {
                BroomFlood x = s.of("s1;" + "b2 1 1;".repeat(8));
                Sentences.minutes(x, 9);
                for (int i = 0; i < 4; i++) {
                    x.measured(i, 2 * i);
                }
                x.keep(0);
                x.keep(1);
                Sentences.type(x, "b3 2 1;" + " ".repeat(193));
                return x;
            }
            case 3: {
                BroomFlood x = s.of("b8 1 1;");
                x.bores(0);
                x.teaches(0);
                Sentences.minutes(x, 3);
                return x;
            }
            default: {
                BroomFlood x = s.of("b8 1 1;");
                x.keep(0);
                x.splits(0);
                x.burns(1);
                x.undo();
                x.undo();
                Sentences.type(x, "x");
                return x;
            }
        }
    }

    private static List<Bounded> asked() {
        List<Bounded> all = new ArrayList<>();
        all.add(new Bounded("broom", BAD, (x, a) -> x.broom(a[0], a[1]), n(0, 6), n(0, 7), n(0, 6)));
        all.add(new Bounded("now", BAD, (x, a) -> x.now(a[0]), n(4), n(0, 5)));
        all.add(new Bounded("stands", BAD, (x, a) -> x.stands(a[0]), n(1), n(0, 200)));
        all.add(new Bounded("most", BAD, (x, a) -> x.most(a[0]), n(1), n(0, 200)));
        all.add(new Bounded("teach", BAD, (x, a) -> x.teach(a[0]), n(2), n(1, 60)));
        all.add(new Bounded("burn", BAD, (x, a) -> x.burn(a[0]), n(2), n(1, 60)));
        all.add(new Bounded("stair", BAD, (x, a) -> x.stair(a[0]), n(2), n(1, 60)));
        all.add(new Bounded("drain", BAD, (x, a) -> x.drain(a[0]), n(2), n(1, 60)));
        all.add(new Bounded("flow", NO, (x, a) -> x.flow(a[0]), n(1), n(0, 1)));
        all.add(new Bounded("splitOn", BAD, (x, a) -> x.splitOn(a[0], a[1], a[2]), n(0, 1, 1), n(0, 0), n(0, 6), n(0, 1)));
        all.add(new Bounded("price", BAD, (x, a) -> x.price(a[0], a[1]), n(1, 1), n(1, 9), n(0, 200)));
        all.add(new Bounded("heard", BAD, (x, a) -> x.heard(a[0]), n(0), n(0, 0)));
        all.add(new Bounded("odds", BAD, (x, a) -> x.odds(a[0], a[1], a[2], a[3], a[4]), n(0, 5, 5, 1, 1),
            n(0, 0), n(0, 10), n(0, 40), n(0, 9), n(0, 1)));
        all.add(new Bounded("count", BAD, (x, a) -> x.count(a[0]), n(1), n(0, 6)));
        return all;
    }

    private static List<Bounded> done() {
        List<Bounded> all = new ArrayList<>();
        all.add(new Bounded("type", BAD, (x, a) -> x.type(a[0]), n(1), n(0, 255)));
        all.add(new Bounded("splits", BAD, (x, a) -> x.splits(a[0]), n(0), n(0, 0)));
        all.add(new Bounded("teaches", BAD, (x, a) -> x.teaches(a[0]), n(0), n(0, 0)));
        all.add(new Bounded("bores", BAD, (x, a) -> x.bores(a[0]), n(0), n(0, 0)));
        all.add(new Bounded("burns", BAD, (x, a) -> x.burns(a[0]), n(0), n(0, 0)));
        all.add(new Bounded("halts", BAD, (x, a) -> x.halts(a[0]), n(0), n(0, 0)));
        all.add(new Bounded("measured", BAD, (x, a) -> x.measured(a[0], a[1]), n(1, 1), n(0, 40), n(0, 99999)));
        all.add(new Bounded("rate", NO, (x, a) -> x.rate(a[0], a[1]), n(0, 0), n(0, 5), n(0, 7)));
        all.add(new Bounded("keep", BAD, (x, a) -> x.keep(a[0]), n(0), n(0, 1)));
        all.add(new Bounded("back", BAD, (x, a) -> x.back(a[0]), n(0), n(0, 1)));
        return all;
    }

    /** A number of a BROOM that must be there has no upper bound of its own: 8 is the first that can't be. */
    private static int firstAbove(int[] bounds) {
        return bounds[1] == 0 ? 8 : bounds[1] + 1;
    }

    private static void refused(Bounded b, BroomFlood x, int place, int number) {
        int[] a = b.taken.clone();
        a[place] = number;
        s.due(b.with(a), b.call.of(x, a), b.refusal);
        for (int other = 0; other < a.length; other++) {
            // One number that is not as told is enough, whatever the others are.
            int[] both = a.clone();
            both[other] = other == place ? number : Integer.MIN_VALUE;
            s.due(b.with(both), b.call.of(x, both), b.refusal);
            both[other] = other == place ? number : b.bounds[other][1];
            s.due(b.with(both), b.call.of(x, both), b.refusal);
        }
    }

    private static void beyond(List<Bounded> calls) {
        for (int state = 0; state < STATES; state++) {
            for (Bounded b : calls) {
                BroomFlood x = inState(state);
                for (int place = 0; place < b.taken.length; place++) {
                    refused(b, x, place, b.bounds[place][0] - 1);
                    refused(b, x, place, firstAbove(b.bounds[place]));
                    refused(b, x, place, Integer.MIN_VALUE);
                    refused(b, x, place, Integer.MAX_VALUE);
                    // One that would be taken if it were cut to its lowest bits.
                    refused(b, x, place, (1 << 20) + b.taken[place]);
                }
                s.sameThrough(b.name + " refused in state " + state, x, inState(state));
            }
        }
    }

    private static void within(List<Bounded> calls) {
        for (int state = 0; state < STATES; state++) {
            for (Bounded b : calls) {
                for (int place = 0; place < b.taken.length; place++) {
                    for (int end = 0; end < 2; end++) {
                        int[] a = b.taken.clone();
                        a[place] = b.bounds[place][end];
                        long answer = b.call.of(inState(state), a);
                        boolean taken = answer != BAD && (answer != NO || b.name.equals("odds"));
                        s.due(b.with(a) + " is taken in state " + state, taken ? 1 : 0, 1);
                    }
                }
            }
        }
    }

    /** Every BROOM that is not there is no such thing for the calls that want one that is. */
    private static void notThere() {
        s.by("BAD (a number is not as told, or there is no such thing)");
        for (int state = 0; state < STATES; state++) {
            BroomFlood x = inState(state);
            int there = x.now(4);
            for (int b = 0; b < 8; b++) {
                boolean is = (there >> b & 1) == 1;
                long[] answers = {inState(state).splits(b), inState(state).teaches(b), inState(state).bores(b),
                    inState(state).burns(b), inState(state).halts(b), x.splitOn(b, 0, 0), x.heard(b), x.odds(b, 1, 1, 1, 1)};
                for (int i = 0; i < answers.length; i++) {
                    s.due("call " + i + " of BROOM " + b + " in state " + state, answers[i] == BAD ? 0 : 1, is ? 1 : 0);
                }
                if (!is) {
                    x.splits(b);
                    x.teaches(b);
                    x.bores(b);
                    x.burns(b);
                    x.halts(b);
                }
            }
            s.sameThrough("not there, in state " + state, x, inState(state));
        }
    }

    private static void byState() {
        s.by("STATE (as told)");
        BroomFlood x = inState(3);
        s.due("bores(0), it is", x.bores(0), STATE);
        s.due("burns(0), it is WET", x.burns(0), STATE);
        s.due("back(0), none was kept", x.back(0), STATE);
        s.due("back(1), none was kept", x.back(1), STATE);
        s.sameThrough("refused by STATE", x, inState(3));
        BroomFlood last = s.of("b1 1 1;");
        BroomFlood twin = s.of("b1 1 1;");
        Sentences.minutes(last, 9999);
        Sentences.minutes(twin, 9999);
        s.due("minute()", last.minute(), STATE);
        s.sameThrough("refused minute()", last, twin);
        BroomFlood none = inState(4);
        s.due("undo()", none.undo(), STATE);
        s.sameThrough("refused undo()", none, inState(4));
    }

    private static void whenFull() {
        s.by("Refused, and nothing changes, the first of these");
        BroomFlood x = inState(2);
        for (int b = 0; b < 8; b++) {
            s.due("splits(" + b + ")", x.splits(b), FULL);
        }
        s.due("type(32)", x.type(32), FULL);
        s.due("type(0)", x.type(0), FULL);
        s.due("type(255)", x.type(255), FULL);
        s.due("measured(0, 0)", x.measured(0, 0), FULL);
        s.due("measured(40, 99999)", x.measured(40, 99999), FULL);
        s.sameThrough("refused when FULL", x, inState(2));
        BroomFlood y = inState(2);
        s.due("BAD ahead of FULL, type(256)", y.type(256), BAD);
        s.due("BAD ahead of FULL, type(-1)", y.type(-1), BAD);
        s.due("BAD ahead of FULL, measured(41, 0)", y.measured(41, 0), BAD);
        s.due("BAD ahead of FULL, measured(0, -1)", y.measured(0, -1), BAD);
        s.due("BAD ahead of FULL, splits(8)", y.splits(8), BAD);
        s.due("BAD ahead of FULL, splits(-1)", y.splits(-1), BAD);
        BroomFlood z = inState(3);
        z.halts(0);
        s.due("BAD ahead of STATE, bores(0)", z.bores(0), BAD);
        s.due("BAD ahead of STATE, burns(0)", z.burns(0), BAD);
        s.due("BAD ahead of STATE, back(2)", z.back(2), BAD);
        s.due("BAD ahead of STATE, back(-1)", z.back(-1), BAD);
    }

    public static void main(String[] args) throws Exception {
        s = new Sentences();
        s.by("Refused, and nothing changes, the first of these: BAD (a number is not as told, or there is no such thing), "
            + "STATE (as told), FULL.");
        beyond(asked());
        beyond(done());
        within(asked());
        within(done());
        notThere();
        byState();
        whenFull();
        s.end();
    }
}
