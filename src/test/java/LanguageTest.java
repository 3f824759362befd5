import java.lang.reflect.Constructor;
import java.lang.reflect.Field;
import java.lang.reflect.Member;
import java.lang.reflect.Method;
import java.lang.reflect.Modifier;
import java.nio.file.Files;
import java.nio.file.Path;
import java.util.Set;
import java.util.TreeSet;
import java.util.regex.Matcher;
import java.util.regex.Pattern;

/** What of LANGUAGE.md and of the document's face can be seen by looking at the class and its source. */
public final class LanguageTest {
    private static final String FACE = "type(int):int clear():int cellar():int broom(int,int):int now(int):int "
        + "minute():int splits(int):int teaches(int):int bores(int):int burns(int):int halts(int):int undo():int "
        + "stands(int):int above():int most(int):int teach(int):int burn(int):int stair(int):int drain(int):int "
        + "flow(int):long splitOn(int,int,int):int price(int,int):int heard(int):int measured(int,int):int "
        + "forget():int splitFirst():int odds(int,int,int,int,int):int rate(int,int):int keep(int):int back(int):int "
        + "count(int):int trace():long";

    private static int wrong = 0;

    private static void hold(boolean so, String what) {
        if (!so) {
            wrong++;
            System.out.println(what);
        }
    }

    private static String signature(Method m) {
        StringBuilder s = new StringBuilder(m.getName()).append('(');
        for (Class<?> p : m.getParameterTypes()) {
            s.append(s.charAt(s.length() - 1) == '(' ? "" : ",").append(p.getName());
        }
        return s.append("):").append(m.getReturnType().getName()).toString();
    }

    private static void face() throws Exception {
        Class<?> c = BroomFlood.class;
        hold(Modifier.isPublic(c.getModifiers()) && Modifier.isFinal(c.getModifiers()), "the class is not public and final");
        Set<String> found = new TreeSet<>();
        for (Method m : c.getDeclaredMethods()) {
            hold(Modifier.isPublic(m.getModifiers()) || Modifier.isPrivate(m.getModifiers()), "neither public nor private: " + m);
            if (Modifier.isPublic(m.getModifiers())) {
                found.add(signature(m));
            }
        }
        hold(found.equals(new TreeSet<>(Set.of(FACE.split(" ")))), "the face is " + found);
        Constructor<?>[] made = c.getDeclaredConstructors();
        hold(made.length == 1 && made[0].getParameterCount() == 0 && Modifier.isPublic(made[0].getModifiers()), "the constructor");
        Set<String> constants = new TreeSet<>();
        for (Field f : c.getDeclaredFields()) {
            hold(Modifier.isPublic(f.getModifiers()) || Modifier.isPrivate(f.getModifiers()), "neither public nor private: " + f);
            if (Modifier.isPublic(f.getModifiers())) {
                constants.add(f.getName() + "=" + f.getInt(null));
            }
        }
        hold(constants.equals(new TreeSet<>(Set.of("BAD=-1", "STATE=-2", "FULL=-3", "NONE=-9", "NO=-1000000"))), "constants " + constants);
    }

    private static void insides(Class<?> c, Set<String> publicNames) {
        int fields = 0;
        for (Field f : c.getDeclaredFields()) {
            boolean isStatic = Modifier.isStatic(f.getModifiers());
            fields += isStatic ? 0 : 1;
            hold(!isStatic || Modifier.isFinal(f.getModifiers()), "a static field that is not final: " + f);
        }
        hold(fields <= 20, c + " has " + fields + " fields");
        for (Method m : c.getDeclaredMethods()) {
            hold(m.getParameterCount() <= 7, "too many parameters: " + m);
            boolean ofFace = c == BroomFlood.class && Modifier.isPublic(m.getModifiers());
            hold(ofFace || !publicNames.contains(m.getName()), "bears the name of a public one: " + m);
            hold(!((Member) m).isSynthetic(), "a hidden method: " + m);
        }
    }

    private static void source() throws Exception {
        String code = Files.readString(Path.of("src/main/java/BroomFlood.java"));
        for (char ch : code.toCharArray()) {
            hold(ch == '\n' || ch >= 32 && ch < 127, "a sign beyond 127: " + (int) ch);
        }
        String bare = code.replaceAll("(?s)/\\*.*?\\*/", "").replaceAll("//[^\n]*", "");
        String[] words = {"throw", "throws", "try", "catch", "finally", "synchronized", "assert", "import", "package",
            "double", "float", "Object", "System", "Thread", "Random", "hashCode", "toString", "->", "::", "@"};
        for (String w : words) {
            String pattern = Character.isLetter(w.charAt(0)) ? "\\b" + w + "\\b" : Pattern.quote(w);
            hold(!Pattern.compile(pattern).matcher(bare).find(), "the source has " + w);
        }
        Matcher called = Pattern.compile("\\b(Integer|Long|Math|String|Arrays)\\.(\\w+)").matcher(bare);
        while (called.find()) {
            hold(!called.group(2).endsWith("Exact"), "the source calls " + called.group());
        }
        String[] lines = bare.split("\n");
        int begun = 0;
        for (int i = 0; i < lines.length; i++) {
            if (lines[i].matches(" +(public |private |static )*[\\w\\[\\]]+ ?\\w*\\([^;]*\\{")) {
                begun = i;
            }
            hold(i - begun <= 60 || !lines[i].contains(";"), "a long method at line " + begun);
        }
    }

    public static void main(String[] args) throws Exception {
        face();
        Set<String> names = new TreeSet<>();
        for (String f : FACE.split(" ")) {
            names.add(f.substring(0, f.indexOf('(')));
        }
        insides(BroomFlood.class, names);
        Class<?>[] inside = BroomFlood.class.getDeclaredClasses();
        hold(inside.length <= 11, inside.length + " classes inside");
        for (Class<?> c : inside) {
            hold(Modifier.isStatic(c.getModifiers()) && !Modifier.isPublic(c.getModifiers()), "not static, or public: " + c);
            insides(c, names);
        }
        source();
        System.out.println(wrong == 0 ? "the language's rules are kept" : wrong + " rules are not kept");
        if (wrong != 0) {
            System.exit(1);
        }
    }
}
