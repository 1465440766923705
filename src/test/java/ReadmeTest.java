import java.io.IOException;
import java.lang.reflect.Method;
import java.lang.reflect.Modifier;
import java.nio.file.Files;
import java.nio.file.Path;
import java.util.HashMap;
import java.util.Map;
import java.util.Set;
import java.util.TreeSet;
import java.util.regex.Matcher;
import java.util.regex.Pattern;

/** Makes the calls that README.md shows in its java blocks, and asks for the answers that it shows. */
public final class ReadmeTest {
    private static final String NEW = "BathHouse bath = new BathHouse();";
    private static final Pattern CALL =
            Pattern.compile("(?:int (\\w+) = )?bath\\.(\\w+)\\(([^)]*)\\); // (true|false|-?\\d+)(?:: .+)?");
    private static final Set<String> shown = new TreeSet<>();
    private static int calls;
    private static int wrong;

    public static void main(String[] args) throws IOException, ReflectiveOperationException {
        boolean inBlock = false;
        Block block = null;
        for (String line : Files.readAllLines(Path.of("README.md"))) {
            if (line.startsWith("```")) {
                inBlock = line.equals("```java");
                block = null;
            } else if (inBlock && line.equals(NEW)) {
                block = new Block();
            } else if (inBlock) {
                check(block != null && block.holds(line), line);
            }
        }
        allShown();
        System.out.println("ReadmeTest: " + calls + " calls, " + wrong + " faults");
        if (wrong != 0) {
            System.exit(1);
        }
    }

    private static void check(boolean right, String what) {
        if (!right) {
            wrong++;
            System.out.println("ReadmeTest: does not hold: " + what);
        }
    }

    private static void allShown() {
        for (Method m : BathHouse.class.getDeclaredMethods()) {
            check(!Modifier.isPublic(m.getModifiers()) || shown.contains(m.getName()), m.getName() + " is shown");
        }
    }

    /** One block of the page: its house, and the numbers that it names. */
    private static final class Block {
        private final BathHouse bath = new BathHouse();
        private final Map<String, Integer> named = new HashMap<>();

        boolean holds(String line) throws ReflectiveOperationException {
            Matcher parts = CALL.matcher(line);
            if (!parts.matches()) {
                return false;
            }
            calls++;
            shown.add(parts.group(2));
            Object answer = ask(parts.group(2), parts.group(3).isEmpty() ? new String[0] : parts.group(3).split(", "));
            if (parts.group(1) != null) {
                named.put(parts.group(1), (Integer) answer);
            }
            return parts.group(4).equals(String.valueOf(answer));
        }

        private Object ask(String name, String[] words) throws ReflectiveOperationException {
            Class<?>[] types = new Class<?>[words.length];
            Object[] values = new Object[words.length];
            for (int i = 0; i < words.length; i++) {
                values[i] = value(words[i]);
                types[i] = values[i] instanceof Boolean ? boolean.class : values[i] instanceof Float ? float.class : int.class;
            }
            return BathHouse.class.getMethod(name, types).invoke(bath, values);
        }

        private Object value(String word) {
            if (named.containsKey(word)) {
                return named.get(word);
            }
            if (word.equals("true") || word.equals("false")) {
                return word.equals("true");
            }
            return word.endsWith("f") ? (Object) Float.valueOf(word) : (Object) Integer.valueOf(word);
        }
    }
}
