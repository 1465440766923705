import java.io.IOException;
import java.lang.reflect.Constructor;
import java.lang.reflect.Field;
import java.lang.reflect.Method;
import java.lang.reflect.Modifier;
import java.nio.file.Files;
import java.nio.file.Path;
import java.util.HashSet;
import java.util.Set;
import java.util.TreeSet;

/** The class's face is the document's, and its source keeps clear of what LANGUAGE.md rules out. */
public final class FaceTest {
    private static final String[] FACE = {
        "all(int)int", "bounds(int,int,int,int)boolean", "clash()int", "club(int,int,int,int,int)int", "count(int,int)int",
        "eye(int,boolean)boolean", "give(int)int", "go(int)int", "hand(int)int", "hour(int)int", "in(int)int", "key(int)int",
        "leave(int)boolean", "locker(int)int", "may(int)int", "measure(int,int,float)int", "mend(int)int", "minutes(int)int",
        "out(int)int", "pool(int,int,int,int)boolean", "post(int,int,int)int", "price(int,int)boolean",
        "pump(int,int,int)boolean", "put(int,int)boolean", "shut(int)int", "ticket(int,int,int,boolean)int",
        "told(int,int)int", "turn(int,int)int", "watcher(int,int)int"};
    private static final String[] RULED_OUT = {"import ", "package ", "->", "::", "try ", "catch", "finally", "throw",
        "synchronized", "assert", "static {", "instanceof", "Object", "Exact", "var ", "double", " + \"", "\" + "};
    private static int wrong;

    public static void main(String[] args) throws IOException {
        face();
        insideClasses();
        source();
        System.out.println("FaceTest: " + wrong + " faults");
        if (wrong != 0) {
            System.exit(1);
        }
    }

    private static void check(boolean right, String what) {
        if (!right) {
            wrong++;
            System.out.println("FaceTest: " + what);
        }
    }

    private static void face() {
        check(Modifier.toString(BathHouse.class.getModifiers()).equals("public final"), "the class is public and final");
        Set<String> shown = new TreeSet<>();
        Set<String> names = new HashSet<>();
        for (Method m : BathHouse.class.getDeclaredMethods()) {
            if (!Modifier.isPrivate(m.getModifiers())) {
                check(m.getModifiers() == Modifier.PUBLIC, m + " is public alone");
                shown.add(signature(m));
                names.add(m.getName());
            }
        }
        check(shown.equals(new TreeSet<>(Set.of(FACE))), "its methods are " + shown);
        for (Class<?> c : withInside()) {
            for (Method m : c.getDeclaredMethods()) {
                check(Modifier.isPublic(m.getModifiers()) || !names.contains(m.getName()), m + " bears a public name");
            }
        }
        for (Field f : BathHouse.class.getDeclaredFields()) {
            check(Modifier.isPrivate(f.getModifiers()) || f.getName().equals("NONE"), f + " is private");
            int open = Modifier.PUBLIC | Modifier.STATIC | Modifier.FINAL;
            check(!f.getName().equals("NONE") || f.getType() == int.class && f.getModifiers() == open, f + " is the face's");
        }
        check(BathHouse.NONE == -1, "NONE is " + BathHouse.NONE);
        Constructor<?>[] made = BathHouse.class.getDeclaredConstructors();
        check(made.length == 1 && made[0].getModifiers() == Modifier.PUBLIC && made[0].getParameterCount() == 0, "its constructor");
    }

    private static String signature(Method m) {
        StringBuilder text = new StringBuilder(m.getName()).append('(');
        for (Class<?> type : m.getParameterTypes()) {
            text.append(text.charAt(text.length() - 1) == '(' ? "" : ",").append(type);
        }
        return text.append(')').append(m.getReturnType()).toString();
    }

    private static Set<Class<?>> withInside() {
        Set<Class<?>> classes = new HashSet<>(Set.of(BathHouse.class.getDeclaredClasses()));
        classes.add(BathHouse.class);
        return classes;
    }

    private static void insideClasses() {
        check(withInside().size() <= 12, "at most twelve classes");
        for (Class<?> c : withInside()) {
            int fields = 0;
            for (Field f : c.getDeclaredFields()) {
                boolean isStatic = Modifier.isStatic(f.getModifiers());
                check(!isStatic || Modifier.isFinal(f.getModifiers()), f + " is final");
                fields += isStatic ? 0 : 1;
            }
            check(fields <= 20, c + " has at most twenty fields");
            check(c == BathHouse.class || Modifier.isStatic(c.getModifiers()) && !Modifier.isPublic(c.getModifiers()),
                    c + " is static and not public");
        }
    }

    private static void source() throws IOException {
        String text = Files.readString(Path.of("src/main/java/BathHouse.java"));
        for (String word : RULED_OUT) {
            check(!text.contains(word), "the source holds '" + word + "'");
        }
        check(text.chars().allMatch(c -> c == '\n' || c >= 32 && c < 127), "the source is of plain signs");
    }
}
