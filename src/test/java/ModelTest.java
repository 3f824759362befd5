import java.math.BigInteger;
import java.util.ArrayDeque;
import java.util.ArrayList;
import java.util.Deque;
import java.util.List;
import java.util.Random;
import java.util.regex.Matcher;
import java.util.regex.Pattern;

/**
 * Runs many streams of calls, always the same ones, against a model of the document
 * that is written in another way than the class: brooms as objects, texts by patterns,
 * what comes by doing it on a copy, all sets by their number first.
 */
public final class ModelTest {
    private static final int STREAMS = 1500;
    private static final int CALLS = 512;
    private static final int SHOWN = 20;

    private static int wrong = 0;
    private static int asked = 0;

    static final class Broom {
        int size, pace, due;
        boolean out, bored, wet, there;

        Broom copy() {
            Broom c = new Broom();
            c.size = size;
            c.pace = pace;
            c.due = due;
            c.out = out;
            c.bored = bored;
            c.wet = wet;
            c.there = there;
            return c;
        }

        int load() {
            return bored ? size / 2 : size;
        }
    }

    static final class World {
        int minutes, water, peak, area = 4, drain = 0, mark = 10, stair = 8;
        int ranOff;
        List<Integer> comers = new ArrayList<>();
        Broom[] brooms = new Broom[8];

        World() {
            for (int i = 0; i < 8; i++) {
                brooms[i] = new Broom();
            }
        }

        World copy() {
            World w = new World();
            w.minutes = minutes;
            w.water = water;
            w.peak = peak;
            w.area = area;
            w.drain = drain;
            w.mark = mark;
            w.stair = stair;
            for (int i = 0; i < 8; i++) {
                w.brooms[i] = brooms[i].copy();
            }
            return w;
        }

        int height() {
            return water / area;
        }

        int there() {
            int bits = 0;
            for (int i = 0; i < 8; i++) {
                bits += brooms[i].there ? 1 << i : 0;
            }
            return bits;
        }

        void minute() {
            comers.clear();
            for (Broom b : brooms) {
                if (b.there) {
                    b.due -= 1;
                }
            }
            for (int i = 0; i < 8; i++) {
                if (brooms[i].there && brooms[i].due <= 0) {
                    comers.add(i);
                }
            }
            while (comers.size() > stair) {
                comers.remove(comers.size() - 1);
            }
            for (int i : comers) {
                Broom b = brooms[i];
                water += b.out ? -b.load() : b.load();
                if (water < 0) {
                    water = 0;
                }
                if (water > 99999) {
                    water = 99999;
                }
                b.due = b.pace;
                b.wet = true;
            }
            int before = water;
            water = Math.max(0, water - drain);
            ranOff = before - water;
            minutes++;
            peak = Math.max(peak, height());
        }

        int split(int i) {
            Broom b = brooms[i];
            if (b.size == 1) {
                b.there = false;
                return -9;
            }
            int free = 0;
            while (free < 8 && brooms[free].there) {
                free++;
            }
            if (free == 8) {
                return -3;
            }
            b.size /= 2;
            b.pace = Math.min(40, b.pace * 2);
            brooms[free] = b.copy();
            return free;
        }

        boolean everAbove(int n) {
            World w = copy();
            boolean above = w.height() > mark;
            for (int i = 0; i < n; i++) {
                w.minute();
                above |= w.height() > mark;
            }
            return above;
        }
    }

    /** The document's calls, by their names in the order of the face. */
    static final class Model {
        StringBuilder text = new StringBuilder();
        World first = new World(), w = new World();
        int told = 0;
        Deque<World> past = new ArrayDeque<>();
        World[] images = new World[2];
        List<int[]> measures = new ArrayList<>();
        long trace = 0;

        boolean gone(int b) {
            return b < 0 || b > 7 || !w.brooms[b].there;
        }

        void remember() {
            past.addLast(w.copy());
            if (past.size() > 8) {
                past.removeFirst();
            }
        }

        int type(int letter) {
            if (letter < 0 || letter > 255) {
                return -1;
            }
            if (text.length() == 200) {
                return -3;
            }
            text.append((char) letter);
            return text.length();
        }

        int clear() {
            int n = text.length();
            text.setLength(0);
            return n;
        }

        int cellar() {
            List<String> tokens = new ArrayList<>();
            List<Integer> places = new ArrayList<>();
            Matcher m = Pattern.compile("[0-9]+|[^ ]", Pattern.DOTALL).matcher(text);
            while (m.find()) {
                tokens.add(m.group());
                places.add(m.start());
            }
            tokens.add("end");
            places.add(text.length());
            World next = new World();
            int brooms = 0, items = 0, at = 0;
            String seen = "";
            while (!tokens.get(at).equals("end")) {
                String t = tokens.get(at);
                if (!t.matches("[wadmsb]") || seen.contains(t) || t.equals("b") && brooms == 8) {
                    return -10 - places.get(at);
                }
                int[][] bounds;
                switch (t) {
                    case "w": case "m": bounds = new int[][] {{0, 99}}; break;
                    case "a": bounds = new int[][] {{1, 20}}; break;
                    case "d": bounds = new int[][] {{0, 20}}; break;
                    case "s": bounds = new int[][] {{1, 8}}; break;
                    default: bounds = new int[][] {{1, 64}, {1, 40}, {1, 40}}; break;
                }
                int[] v = new int[3];
                for (int i = 0; i < bounds.length; i++) {
                    at++;
                    String n = tokens.get(at);
                    if (!n.matches("0|[1-9][0-9]?")) {
                        return -10 - places.get(at);
                    }
                    v[i] = Integer.parseInt(n);
                    if (v[i] < bounds[i][0] || v[i] > bounds[i][1]) {
                        return -10 - places.get(at);
                    }
                }
                at++;
                if (!tokens.get(at).equals(";")) {
                    return -10 - places.get(at);
                }
                at++;
                items++;
                switch (t) {
                    case "w": next.water = v[0]; break;
                    case "a": next.area = v[0]; break;
                    case "d": next.drain = v[0]; break;
                    case "m": next.mark = v[0]; break;
                    case "s": next.stair = v[0]; break;
                    default:
                        Broom b = next.brooms[brooms++];
                        b.size = v[0];
                        b.pace = v[1];
                        b.due = v[2];
                        b.there = true;
                }
                if (!t.equals("b")) {
                    seen += t;
                }
            }
            next.peak = next.height();
            told = brooms;
            first = next;
            w = next.copy();
            text.setLength(0);
            measures.clear();
            past.clear();
            images = new World[2];
            return items;
        }

        int broom(int b, int what) {
            if (b < 0 || b > 7 || what < 0 || what > 6) {
                return -1;
            }
            Broom x = w.brooms[b];
            int[] all = {x.size, x.pace, x.due, x.out ? 1 : 0, x.bored ? 1 : 0, x.wet ? 1 : 0, x.there ? 1 : 0};
            return all[what];
        }

        int now(int what) {
            int[] all = {w.minutes, w.water, w.height(), w.peak, w.there(), past.size()};
            return what < 0 || what > 5 ? -1 : all[what];
        }

        int minute() {
            if (w.minutes == 9999) {
                return -2;
            }
            remember();
            w.minute();
            return w.height();
        }

        int splits(int b) {
            if (gone(b)) {
                return -1;
            }
            World before = w.copy();
            int other = w.split(b);
            if (other != -3) {
                World after = w;
                w = before;
                remember();
                w = after;
            }
            return other;
        }

        int teaches(int b) {
            if (gone(b)) {
                return -1;
            }
            remember();
            w.brooms[b].out = !w.brooms[b].out;
            return w.brooms[b].out ? 1 : 0;
        }

        int bores(int b) {
            if (gone(b)) {
                return -1;
            }
            if (w.brooms[b].bored) {
                return -2;
            }
            remember();
            w.brooms[b].bored = true;
            return w.brooms[b].size;
        }

        int burns(int b) {
            if (gone(b)) {
                return -1;
            }
            return w.brooms[b].wet ? -2 : halts(b);
        }

        int halts(int b) {
            if (gone(b)) {
                return -1;
            }
            remember();
            w.brooms[b].there = false;
            return Integer.bitCount(w.there());
        }

        int undo() {
            if (past.isEmpty()) {
                return -2;
            }
            w = past.removeLast();
            return past.size();
        }

        int stands(int n) {
            if (n < 0 || n > 200) {
                return -1;
            }
            World x = w.copy();
            for (int i = 0; i < n; i++) {
                x.minute();
            }
            return x.height();
        }

        int above() {
            for (int n = 0; n <= 200; n++) {
                if (w.everAbove(n)) {
                    return n;
                }
            }
            return -9;
        }

        int most(int n) {
            if (n < 0 || n > 200) {
                return -1;
            }
            int most = 0;
            for (int i = 0; i <= n; i++) {
                most = Math.max(most, stands(i));
            }
            return most;
        }

        int fewest(int n, boolean burning) {
            if (n < 1 || n > 60) {
                return -1;
            }
            for (int many = 0; many <= 8; many++) {
                for (int set = 0; set < 256; set++) {
                    if (Integer.bitCount(set) == many && may(set, burning) && !with(set, burning).everAbove(n)) {
                        return set;
                    }
                }
            }
            return -9;
        }

        boolean may(int set, boolean burning) {
            for (int i = 0; i < 8; i++) {
                Broom b = w.brooms[i];
                if ((set >> i & 1) == 1 && (!b.there || (burning ? b.wet : b.out))) {
                    return false;
                }
            }
            return true;
        }

        World with(int set, boolean burning) {
            World x = w.copy();
            for (int i = 0; i < 8; i++) {
                if ((set >> i & 1) == 1) {
                    x.brooms[i].there &= !burning;
                    x.brooms[i].out |= !burning;
                }
            }
            return x;
        }

        int stair(int n) {
            if (n < 1 || n > 60) {
                return -1;
            }
            int best = -9;
            for (int s = 1; s <= 8; s++) {
                World x = w.copy();
                x.stair = s;
                best = x.everAbove(n) ? best : s;
            }
            return best;
        }

        int drain(int n) {
            if (n < 1 || n > 60) {
                return -1;
            }
            int best = -9;
            for (int d = 20; d >= 0; d--) {
                World x = w.copy();
                x.drain = d;
                best = x.everAbove(n) ? best : d;
            }
            return best;
        }

        long flow(int what) {
            if (what < 0 || what > 1) {
                return -1000000;
            }
            BigInteger up = BigInteger.ZERO, low = BigInteger.ONE;
            for (int d = 2; d <= 40; d++) {
                low = low.multiply(BigInteger.valueOf(d));
            }
            for (Broom b : w.brooms) {
                if (b.there) {
                    BigInteger part = low.divide(BigInteger.valueOf(b.pace)).multiply(BigInteger.valueOf(b.load()));
                    up = b.out ? up.subtract(part) : up.add(part);
                }
            }
            BigInteger g = up.gcd(low);
            return (what == 0 ? up : low).divide(g).longValueExact();
        }

        int splitOn(int b, int k, int what) {
            if (gone(b) || k < 0 || k > 6 || what < 0 || what > 1) {
                return -1;
            }
            List<Integer> sizes = new ArrayList<>(List.of(w.brooms[b].size));
            for (int i = 0; i < k; i++) {
                List<Integer> next = new ArrayList<>();
                for (int s : sizes) {
                    if (s > 1) {
                        next.add(s / 2);
                        next.add(s / 2);
                    }
                }
                sizes = next;
            }
            return what == 0 ? sizes.size() : sizes.stream().mapToInt(s -> s).sum();
        }

        int price(int c, int n) {
            if (c < 1 || c > 9 || n < 0 || n > 200) {
                return -1;
            }
            World x = w.copy();
            int sum = 0;
            for (int i = 0; i < n; i++) {
                x.minute();
                sum += c * x.ranOff;
            }
            return sum;
        }

        int heard(int b) {
            if (gone(b)) {
                return -1;
            }
            World x = w.copy();
            boolean[] knows = new boolean[8];
            knows[b] = true;
            for (int n = 0; n <= 200; n++) {
                boolean all = true;
                for (int i = 0; i < 8; i++) {
                    all &= knows[i] || !x.brooms[i].there;
                }
                if (all) {
                    return n;
                }
                x.minute();
                boolean told = false;
                for (int i : x.comers) {
                    told |= knows[i];
                }
                for (int i : x.comers) {
                    knows[i] |= told;
                }
            }
            return -9;
        }

        int measured(int i, int v) {
            if (i < 0 || i > 40 || v < 0 || v > 99999) {
                return -1;
            }
            if (measures.size() == 4) {
                return -3;
            }
            measures.add(new int[] {i, v});
            return measures.size();
        }

        int forget() {
            int n = measures.size();
            measures.clear();
            return n;
        }

        boolean fits(World start) {
            for (int[] m : measures) {
                World x = start.copy();
                for (int i = 0; i < m[0]; i++) {
                    x.minute();
                }
                if (x.water != m[1]) {
                    return false;
                }
            }
            return true;
        }

        int splitFirst() {
            int bits = fits(first) ? 256 : 0;
            for (int b = 0; b < told; b++) {
                World x = first.copy();
                if (x.split(b) != -3 && fits(x)) {
                    bits += 1 << b;
                }
            }
            return bits;
        }

        int odds(int b, int p, int n, int k, int what) {
            if (gone(b) || p < 0 || p > 10 || n < 0 || n > 40 || k < 0 || k > 9 || what < 0 || what > 1) {
                return -1;
            }
            World x = w.copy();
            x.stair = 8;
            int times = 0;
            for (int i = 0; i < n; i++) {
                x.minute();
                times += x.comers.contains(b) ? 1 : 0;
            }
            if (times > 9) {
                return -1000000;
            }
            BigInteger up = BigInteger.ZERO, low = BigInteger.TEN.pow(times);
            for (int set = 0; set < 1 << times; set++) {
                int well = Integer.bitCount(set);
                if (well >= k) {
                    up = up.add(BigInteger.valueOf(10 - p).pow(well).multiply(BigInteger.valueOf(p).pow(times - well)));
                }
            }
            BigInteger g = up.gcd(low);
            return (what == 0 ? up : low).divide(g).intValueExact();
        }

        int rate(int kind, int b) {
            if (kind < 0 || kind > 5 || b < 0 || b > 7) {
                return -1000000;
            }
            Broom x = w.brooms[b];
            long[] added = {1, 11, 101, 1011, 10101, 100001};
            int[] rates = {x.size, x.size + x.pace, x.size - x.due, 2 * (x.size + x.pace),
                x.size - x.due + b, x.size + w.height()};
            trace += added[kind];
            return rates[kind];
        }

        int keep(int image) {
            if (image < 0 || image > 1) {
                return -1;
            }
            images[image] = w.copy();
            return w.minutes;
        }

        int back(int image) {
            if (image < 0 || image > 1) {
                return -1;
            }
            if (images[image] == null) {
                return -2;
            }
            w = images[image].copy();
            past.clear();
            return w.minutes;
        }

        int count(int what) {
            int[] all = {w.area, w.drain, w.mark, w.stair, told, measures.size(), text.length()};
            return what < 0 || what > 6 ? -1 : all[what];
        }
    }

    private static boolean same(String call, long got, long want, List<String> log) {
        asked++;
        log.add(call + " = " + got);
        if (got == want) {
            return true;
        }
        wrong++;
        if (wrong <= SHOWN) {
            System.out.println(call + " answered " + got + ", the model says " + want);
            System.out.println("  " + log.subList(Math.max(0, log.size() - 40), log.size()));
        }
        return false;
    }

    private static String randomText(Random r) {
        StringBuilder s = new StringBuilder();
        boolean small = r.nextInt(3) == 0;
        int brooms = r.nextInt(10) == 0 ? 8 : r.nextInt(6);
        List<String> items = new ArrayList<>();
        for (int i = 0; i < brooms; i++) {
            items.add("b" + (1 + r.nextInt(small ? 4 : 64)) + " " + (1 + r.nextInt(small ? 5 : 40)) + " "
                + (1 + r.nextInt(small ? 3 : 40)));
        }
        String[] letters = {"w", "a", "d", "m", "s"};
        int[] least = {0, 1, 0, 0, 1};
        int[] most = {99, 20, 20, 99, small ? 2 : 8};
        for (int i = 0; i < 5; i++) {
            if (r.nextInt(3) != 0) {
                items.add(r.nextInt(items.size() + 1), letters[i] + (least[i] + r.nextInt(most[i] - least[i] + 1)));
            }
        }
        for (String item : items) {
            s.append(item).append(r.nextInt(5) == 0 ? " ;" : ";").append(r.nextInt(8) == 0 ? " " : "");
        }
        String alphabet = "wadmsb;0123456789 x";
        if (r.nextInt(3) == 0) {
            for (int n = r.nextInt(3); n >= 0; n--) {
                int at = r.nextInt(s.length() + 1);
                char c = r.nextInt(20) == 0 ? (char) r.nextInt(256) : alphabet.charAt(r.nextInt(alphabet.length()));
                switch (r.nextInt(4)) {
                    case 0: s.insert(at, c); break;
                    case 1: if (at < s.length()) s.setCharAt(at, c); break;
                    case 2: if (at < s.length()) s.deleteCharAt(at); break;
                    default: s.setLength(at); break;
                }
            }
        }
        return s.toString();
    }

    private static int within(Random r, int least, int most) {
        switch (r.nextInt(20)) {
            case 0: return least;
            case 1: return most;
            case 2: return least - 1;
            case 3: return most + 1;
            case 4: return r.nextBoolean() ? r.nextInt() : Integer.MIN_VALUE + r.nextInt(2) * -1;
            default: return least + r.nextInt(most - least + 1);
        }
    }

    private static boolean oneCall(Random r, BroomFlood x, Model m, List<String> log) {
        int b = within(r, 0, r.nextBoolean() ? 3 : 7), n = within(r, 0, 200), k = within(r, 1, 60), w = within(r, 0, 1);
        switch (r.nextInt(46)) {
            case 0: return same("clear()", x.clear(), m.clear(), log);
            case 1: { int q = within(r, 0, 6); return same("broom(" + b + "," + q + ")", x.broom(b, q), m.broom(b, q), log); }
            case 2: { int q = within(r, 0, 5); return same("now(" + q + ")", x.now(q), m.now(q), log); }
            case 3: case 4: return same("splits(" + b + ")", x.splits(b), m.splits(b), log);
            case 5: return same("teaches(" + b + ")", x.teaches(b), m.teaches(b), log);
            case 6: return same("bores(" + b + ")", x.bores(b), m.bores(b), log);
            case 7: return same("burns(" + b + ")", x.burns(b), m.burns(b), log);
            case 8: return r.nextInt(3) != 0 || same("halts(" + b + ")", x.halts(b), m.halts(b), log);
            case 9: case 10: return same("undo()", x.undo(), m.undo(), log);
            case 11: return same("stands(" + n + ")", x.stands(n), m.stands(n), log);
            case 12: return same("above()", x.above(), m.above(), log);
            case 13: return same("most(" + n + ")", x.most(n), m.most(n), log);
            case 14: return same("teach(" + k + ")", x.teach(k), m.fewest(k, false), log);
            case 15: return same("burn(" + k + ")", x.burn(k), m.fewest(k, true), log);
            case 16: return same("stair(" + k + ")", x.stair(k), m.stair(k), log);
            case 17: return same("drain(" + k + ")", x.drain(k), m.drain(k), log);
            case 18: return same("flow(" + w + ")", x.flow(w), m.flow(w), log);
            case 19: { int q = within(r, 0, 6); return same("splitOn(" + b + "," + q + "," + w + ")", x.splitOn(b, q, w), m.splitOn(b, q, w), log); }
            case 20: { int c = within(r, 1, 9); return same("price(" + c + "," + n + ")", x.price(c, n), m.price(c, n), log); }
            case 21: return same("heard(" + b + ")", x.heard(b), m.heard(b), log);
            case 22: case 23: case 24: return measureOne(r, x, m, log);
            case 25: return same("forget()", x.forget(), m.forget(), log);
            case 26: case 27: return same("splitFirst()", x.splitFirst(), m.splitFirst(), log);
            case 28: case 29: {
                int p = within(r, 0, 10), t = within(r, 0, 40), q = within(r, 0, r.nextBoolean() ? 3 : 9);
                return same("odds(" + b + "," + p + "," + t + "," + q + "," + w + ")", x.odds(b, p, t, q, w), m.odds(b, p, t, q, w), log);
            }
            case 30: case 31: { int q = within(r, 0, 5); return same("rate(" + q + "," + b + ")", x.rate(q, b), m.rate(q, b), log); }
            case 32: return same("keep(" + w + ")", x.keep(w), m.keep(w), log);
            case 33: return same("back(" + w + ")", x.back(w), m.back(w), log);
            case 34: { int q = within(r, 0, 6); return same("count(" + q + ")", x.count(q), m.count(q), log); }
            case 35: return same("trace()", x.trace(), m.trace, log);
            case 36: { int q = within(r, 0, 255); return same("type(" + q + ")", x.type(q), m.type(q), log); }
            case 37: return r.nextInt(4) != 0 || same("cellar()", x.cellar(), m.cellar(), log);
            default: return same("minute()", x.minute(), m.minute(), log);
        }
    }

    /** Often what would be so, or would be so with one split, since other measures tell little. */
    private static boolean measureOne(Random r, BroomFlood x, Model m, List<String> log) {
        int i = within(r, 0, 40), v = within(r, 0, 99999);
        if (i >= 0 && i <= 40 && r.nextInt(5) != 0) {
            World w = m.first.copy();
            if (m.told > 0 && r.nextBoolean()) {
                w.split(r.nextInt(m.told));
            }
            for (int j = 0; j < i; j++) {
                w.minute();
            }
            v = w.water;
        }
        return same("measured(" + i + "," + v + ")", x.measured(i, v), m.measured(i, v), log);
    }

    private static boolean tellText(Random r, BroomFlood x, Model m, List<String> log) {
        boolean fine = same("clear()", x.clear(), m.clear(), log);
        for (char c : randomText(r).toCharArray()) {
            fine &= same("type(" + (int) c + ")", x.type(c), m.type(c), log);
        }
        return fine & same("cellar()", x.cellar(), m.cellar(), log);
    }

    private static boolean allSame(BroomFlood x, Model m, List<String> log) {
        boolean fine = true;
        for (int b = 0; b < 8; b++) {
            for (int what = 0; what < 7; what++) {
                fine &= same("broom(" + b + "," + what + ")", x.broom(b, what), m.broom(b, what), log);
            }
        }
        for (int what = 0; what < 7; what++) {
            fine &= same("now(" + what + ")", x.now(what), m.now(what), log);
            fine &= same("count(" + what + ")", x.count(what), m.count(what), log);
        }
        return fine & same("trace()", x.trace(), m.trace, log);
    }

    public static void main(String[] args) {
        Random r = new Random(20261118);
        for (int s = 0; s < STREAMS && wrong < SHOWN; s++) {
            BroomFlood x = new BroomFlood();
            Model m = new Model();
            List<String> log = new ArrayList<>();
            boolean fine = true;
            while (fine && log.size() < 60) {
                fine = tellText(r, x, m, log);
            }
            while (fine && log.size() < CALLS - 71) {
                fine = oneCall(r, x, m, log);
            }
            if (fine) {
                allSame(x, m, log);
            }
        }
        System.out.println(asked + " answers compared, " + wrong + " wrong");
        if (wrong != 0) {
            System.exit(1);
        }
    }
}
