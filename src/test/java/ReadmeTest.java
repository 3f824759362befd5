import java.lang.reflect.Method;
import java.lang.reflect.Modifier;
import java.nio.file.Files;
import java.nio.file.Path;
import java.util.Set;
import java.util.TreeSet;
import java.util.regex.Matcher;
import java.util.regex.Pattern;

/** Whether each line of README.md's example answers what it says, and whether it shows every call. */
public final class ReadmeTest {
    private static final Pattern TEXT = Pattern.compile("for \\(char letter : \"([^\"]*)\"");
    private static final Pattern LINE = Pattern.compile("(?m)^flood\\.(\\w+)\\(([^)]*)\\);\\s*// (-?\\d+|[A-Z]+):");

    private static int wrong = 0;

    private static void hold(boolean so, String what) {
        if (!so) {
            wrong++;
            System.out.println(what);
        }
    }

    private static Method named(String name) {
        for (Method m : BroomFlood.class.getDeclaredMethods()) {
            if (Modifier.isPublic(m.getModifiers()) && m.getName().equals(name)) {
                return m;
            }
        }
        throw new IllegalStateException("README.md calls " + name);
    }

    private static long answer(BroomFlood flood, Method call, String numbers) throws Exception {
        String[] parts = numbers.isBlank() ? new String[0] : numbers.split(",");
        Object[] args = new Object[parts.length];
        for (int i = 0; i < parts.length; i++) {
            args[i] = Integer.valueOf(parts[i].trim());
        }
        return ((Number) call.invoke(flood, args)).longValue();
    }

    private static long number(String written) throws Exception {
        boolean constant = Character.isLetter(written.charAt(0));
        return constant ? BroomFlood.class.getField(written).getInt(null) : Long.parseLong(written);
    }

    public static void main(String[] args) throws Exception {
        String readme = Files.readString(Path.of("README.md"));
        BroomFlood flood = new BroomFlood();
        Matcher text = TEXT.matcher(readme);
        hold(text.find(), "README.md tells no text");
        for (char letter : text.group(1).toCharArray()) {
            flood.type(letter);
        }
        Set<String> shown = new TreeSet<>();
        Matcher line = LINE.matcher(readme);
        int lines = 0;
        while (line.find()) {
            lines++;
            shown.add(line.group(1));
            long got = answer(flood, named(line.group(1)), line.group(2));
            hold(got == number(line.group(3)), line.group() + " answered " + got);
        }
        for (Method m : BroomFlood.class.getDeclaredMethods()) {
            hold(!Modifier.isPublic(m.getModifiers()) || shown.contains(m.getName()), "README.md does not show " + m.getName());
        }
        System.out.println(lines + " lines of README.md, " + wrong + " wrong");
        if (wrong != 0) {
            System.exit(1);
        }
    }
}
