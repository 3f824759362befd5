import java.lang.reflect.Constructor;
import java.lang.reflect.Field;
import java.lang.reflect.Member;
import java.lang.reflect.Method;
import java.lang.reflect.Modifier;
import java.nio.file.Files;
import java.nio.file.Path;
import java.util.HashMap;
import java.util.Map;
import java.util.Set;
import java.util.TreeSet;
import java.util.regex.Matcher;
import java.util.regex.Pattern;

/** What of LANGUAGE.md and of the document's face can be seen by looking at the class and its source. */
public final class LanguageTest {
    private static final String FACE = "type(int):int clear():int cellar():int broom(int,int):int now(int):int "
        + "minute():int splits(int):int teaches(int):int bores(int):int burns(int):int halts(int):int undo():int "
        + "stands(int):int above():int most(int):int teach(int):int burn(int):int stair(int):int drain(int):int "
        + "flow(int):long splitOn(int,int,int):int price(int,int):int heard(int):int measured(int,int):int "
        + "forget():int splitFirst():int odds(int,int,int,int,int):int rate(int,int):int keep(int):int back(int):int "
        + "count(int):int trace():long";

    private static final Set<String> LIBRARY = Set.of("Math.min", "Math.max", "Math.abs", "Math.floorMod", "Integer.bitCount");

    private static int wrong = 0;

    private static void hold(boolean so, String what) {
        if (!so) {
            wrong++;
            System.out.println(what);
        }
    }

    private static String signature(Method m) {
        StringBuilder s = new StringBuilder(m.getName()).append('(');
        for (Class<?> p : m.getParameterTypes()) {
            s.append(s.charAt(s.length() - 1) == '(' ? "" : ",").append(p.getName());
        }
        return s.append("):").append(m.getReturnType().getName()).toString();
    }

    private static void face() throws Exception {
        Class<?> c = BroomFlood.class;
        hold(Modifier.isPublic(c.getModifiers()) && Modifier.isFinal(c.getModifiers()), "the class is not public and final");
        Set<String> found = new TreeSet<>();
        for (Method m : c.getDeclaredMethods()) {
            hold(Modifier.isPublic(m.getModifiers()) || Modifier.isPrivate(m.getModifiers()), "neither public nor private: " + m);
            if (Modifier.isPublic(m.getModifiers())) {
                found.add(signature(m));
            }
        }
        hold(found.equals(new TreeSet<>(Set.of(FACE.split(" ")))), "the face is " + found);
        Constructor<?>[] made = c.getDeclaredConstructors();
        hold(made.length == 1 && made[0].getParameterCount() == 0 && Modifier.isPublic(made[0].getModifiers()), "the constructor");
        Set<String> constants = new TreeSet<>();
        for (Field f : c.getDeclaredFields()) {
            hold(Modifier.isPublic(f.getModifiers()) || Modifier.isPrivate(f.getModifiers()), "neither public nor private: " + f);
            if (Modifier.isPublic(f.getModifiers())) {
                constants.add(f.getName() + "=" + f.getInt(null));
            }
        }
        hold(constants.equals(new TreeSet<>(Set.of("BAD=-1", "STATE=-2", "FULL=-3", "NONE=-9", "NO=-1000000"))), "constants " + constants);
    }

    private static void insides(Class<?> c, Set<String> publicNames) {
        int fields = 0;
        for (Field f : c.getDeclaredFields()) {
            boolean isStatic = Modifier.isStatic(f.getModifiers());
            fields += isStatic ? 0 : 1;
            hold(!isStatic || Modifier.isFinal(f.getModifiers()), "a static field that is not final: " + f);
        }
        hold(fields <= 20, c + " has " + fields + " fields");
        for (Method m : c.getDeclaredMethods()) {
            hold(m.getParameterCount() <= 7, "too many parameters: " + m);
            boolean ofFace = c == BroomFlood.class && Modifier.isPublic(m.getModifiers());
            hold(ofFace || !publicNames.contains(m.getName()), "bears the name of a public one: " + m);
            hold(!((Member) m).isSynthetic(), "a hidden method: " + m);
        }
    }

    private static void source() throws Exception {
        String code = Files.readString(Path.of("src/main/java/BroomFlood.java"));
        for (char ch : code.toCharArray()) {
            hold(ch == '\n' || ch >= 32 && ch < 127, "a sign beyond 127: " + (int) ch);
        }
        String bare = code.replaceAll("(?s)/\\*.*?\\*/", "").replaceAll("//[^\n]*", "");
        String[] words = {"throw", "throws", "try", "catch", "finally", "synchronized", "assert", "import", "package",
            "double", "float", "Object", "System", "Thread", "Random", "hashCode", "toString", "->", "::", "@"};
        for (String w : words) {
            String pattern = Character.isLetter(w.charAt(0)) ? "\\b" + w + "\\b" : Pattern.quote(w);
            hold(!Pattern.compile(pattern).matcher(bare).find(), "the source has " + w);
        }
        Matcher called = Pattern.compile("\\b(Integer|Long|Math|String|StringBuilder|Arrays|List|ArrayList)\\.(\\w+)").matcher(bare);
        while (called.find()) {
            hold(LIBRARY.contains(called.group()), "the source calls " + called.group());
        }
        methods(bare.split("\n"));
    }

    /** Methods are told by how far they stand in: 4 blanks in the class itself, 8 in those inside it. */
    private static void methods(String[] lines) {
        Map<String, String> bodies = new HashMap<>();
        String inside = "BroomFlood";
        for (int i = 0; i < lines.length; i++) {
            Matcher type = Pattern.compile("^    private static final class (\\w+) \\{").matcher(lines[i]);
            inside = type.find() ? type.group(1) : lines[i].equals("    }") ? "BroomFlood" : inside;
            Matcher head = Pattern.compile("^(    |        )(?:[\\w\\[\\]]+ )*(\\w+)\\([^;]*\\) \\{$").matcher(lines[i]);
            if (head.find() && !head.group(2).matches("if|for|while|switch") && head.group(1).length() == (inside.equals("BroomFlood") ? 4 : 8)) {
                StringBuilder body = new StringBuilder();
                int end = i + 1;
                while (!lines[end].equals(head.group(1) + "}")) {
                    body.append(lines[end]).append('\n');
                    end++;
                }
                hold(end - i <= 60, "a long method at line " + i);
                hold(bodies.put(inside + "." + head.group(2), body.toString()) == null, "two methods named " + head.group(2));
                i = inside.equals("BroomFlood") ? end : i;
            }
        }
        hold(bodies.size() > 90, "only " + bodies.size() + " methods are found");
        for (String name : bodies.keySet()) {
            loops(name, bodies.get(name));
            hold(isConstructor(name) || !bodies.get(name).matches("(?s).*\\bnew\\b.*"), "an object is made in " + name);
            String own = name.substring(name.indexOf('.') + 1);
            hold(!Pattern.compile("(?<![\\w.])" + own + "\\(").matcher(bodies.get(name)).find(), name + " calls itself");
            int depth = depth(name, bodies, 1);
            hold(depth <= 8, name + " goes " + depth + " deep");
        }
    }

    private static boolean isConstructor(String name) {
        return name.substring(0, name.indexOf('.')).equals(name.substring(name.indexOf('.') + 1));
    }

    /** Each loop counts one number up or down by one against a bound. */
    private static void loops(String name, String body) {
        hold(!Pattern.compile("\\b(while|do)\\b").matcher(body).find(), "a loop without a counter in " + name);
        Matcher loop = Pattern.compile("\\bfor \\((.*)\\) \\{").matcher(body);
        while (loop.find()) {
            boolean up = loop.group(1).matches("int (\\w+) = [^;]+; \\1 <=? [^;|]+; \\1\\+\\+");
            boolean down = loop.group(1).matches("int (\\w+) = [^;]+; \\1 >=? [^;|]+; \\1--");
            hold(up || down, "a loop whose end is not seen in " + name + ": " + loop.group());
            String counter = loop.group(1).split(" ")[1];
            String rest = body.substring(loop.end());
            hold(!Pattern.compile("\\b" + counter + "(\\+\\+|--| [-+*/]?= )").matcher(inLoop(rest)).find(), "a counter is changed in " + name);
        }
    }

    private static String inLoop(String rest) {
        int open = 1;
        int at = 0;
        while (open > 0 && at < rest.length()) {
            open += rest.charAt(at) == '{' ? 1 : rest.charAt(at) == '}' ? -1 : 0;
            at++;
        }
        return rest.substring(0, at);
    }

    /** By names alone, so rather too deep than not deep enough; a method that calls one of its own name in another class is none. */
    private static int depth(String name, Map<String, String> bodies, int level) {
        int deepest = level;
        if (level > 20) {
            return level;
        }
        Matcher called = Pattern.compile("(new )?\\b(\\w+)\\(").matcher(bodies.get(name));
        while (called.find()) {
            for (String other : bodies.keySet()) {
                boolean made = called.group(1) != null;
                if (!other.equals(name) && other.endsWith("." + called.group(2)) && made == isConstructor(other)) {
                    deepest = Math.max(deepest, depth(other, bodies, level + 1));
                }
            }
        }
        return deepest;
    }

    public static void main(String[] args) throws Exception {
        face();
        Set<String> names = new TreeSet<>();
        for (String f : FACE.split(" ")) {
            names.add(f.substring(0, f.indexOf('(')));
        }
        insides(BroomFlood.class, names);
        Class<?>[] inside = BroomFlood.class.getDeclaredClasses();
        hold(inside.length <= 11, inside.length + " classes inside");
        for (Class<?> c : inside) {
            hold(Modifier.isStatic(c.getModifiers()) && !Modifier.isPublic(c.getModifiers()), "not static, or public: " + c);
            insides(c, names);
        }
        source();
        System.out.println(wrong == 0 ? "the language's rules are kept" : wrong + " rules are not kept");
        if (wrong != 0) {
            System.exit(1);
        }
    }
}
