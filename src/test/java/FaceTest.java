import java.io.IOException;
import java.lang.reflect.Array;
import java.lang.reflect.Constructor;
import java.lang.reflect.Field;
import java.lang.reflect.Method;
import java.lang.reflect.Modifier;
import java.nio.file.Files;
import java.nio.file.Path;
import java.util.Arrays;
import java.util.IdentityHashMap;
import java.util.Map;
import java.util.Set;
import java.util.TreeSet;
import java.util.regex.Matcher;
import java.util.regex.Pattern;

/** The public face, the rules of LANGUAGE.md that a look can tell, and the room of one object. */
public final class FaceTest {
    private static final Checks CHECKS = new Checks();
    private static final Path SOURCE = Path.of("src/main/java/ConkerHeirs.java");

    private static final Set<String> METHODS = new TreeSet<>(Arrays.asList(
        "int thread(int, int)", "int give(int, int)", "int strike(int, int, int)", "int mend(int)", "int stamp(int)",
        "int boast(int, int)", "int doubt(int, int)", "int bout(int, int, int)", "int round(int)", "int append(int)",
        "int clearText()", "int fault()", "int run()", "int undo()", "int save()", "int restore()",
        "int conker(int, int)", "int player(int, int)", "int ranked(int)", "int line(int)", "int count(int)",
        "int ifStruck(int, int, int)", "int leastSwing(int, int)", "int winner(int, int, int)", "float share(int)"));

    /** Words that no rule of LANGUAGE.md leaves room for in this program; it throws nothing, so it catches nothing. */
    private static final String[] BANNED = {"->", "::", "\\bimport\\b", "\\bpackage\\b", "\\bprotected\\b",
        "\\btry\\b", "\\bcatch\\b", "\\bthrow\\b", "\\bfinally\\b", "\\bsynchronized\\b", "\\bassert\\b",
        "\\binstanceof\\b", "\\bvar\\b", "\\bObject\\b", "\\bSystem\\.(?!arraycopy)", "\\bMath\\.\\w+Exact\\b",
        "\\brecord\\b", "\\bnull\\b"};

    public static void main(String[] args) throws IOException, IllegalAccessException {
        face();
        constants();
        classesInside();
        source();
        room();
        CHECKS.close("FaceTest");
    }

    private static String signature(Method method) {
        StringBuilder text = new StringBuilder(method.getReturnType() + " " + method.getName() + "(");
        for (Class<?> type : method.getParameterTypes()) {
            text.append(text.charAt(text.length() - 1) == '(' ? "" : ", ").append(type);
        }
        return text.append(")").toString();
    }

    private static void face() {
        Set<String> found = new TreeSet<>();
        for (Method method : ConkerHeirs.class.getDeclaredMethods()) {
            if (Modifier.isPublic(method.getModifiers())) {
                found.add(signature(method));
                CHECKS.holds(method + " is no static one", !Modifier.isStatic(method.getModifiers()));
                CHECKS.holds(method + " declares no exception", method.getExceptionTypes().length == 0);
            } else {
                CHECKS.holds(method + " is private", Modifier.isPrivate(method.getModifiers()));
            }
        }
        CHECKS.holds("the public methods are " + found, found.equals(METHODS));
        Constructor<?>[] constructors = ConkerHeirs.class.getDeclaredConstructors();
        CHECKS.due("constructors", 1, constructors.length);
        CHECKS.holds("public, without arguments", Modifier.isPublic(constructors[0].getModifiers())
            && constructors[0].getParameterCount() == 0);
        CHECKS.holds("public and final", Modifier.isPublic(ConkerHeirs.class.getModifiers())
            && Modifier.isFinal(ConkerHeirs.class.getModifiers()));
        CHECKS.holds("no class above it", ConkerHeirs.class.getSuperclass() == Object.class
            && ConkerHeirs.class.getInterfaces().length == 0);
    }

    private static void constants() throws IllegalAccessException {
        Map<String, Integer> due = Map.of("NO_SUCH", -1, "BAD_VALUE", -2, "TOO_MANY", -3, "NOT_POSSIBLE", -4,
            "NONE", -5);
        int found = 0;
        for (Field field : ConkerHeirs.class.getDeclaredFields()) {
            int kind = field.getModifiers();
            if (Modifier.isPublic(kind)) {
                found++;
                CHECKS.holds(field + " is a constant", Modifier.isStatic(kind) && Modifier.isFinal(kind));
                CHECKS.due(field.getName(), due.getOrDefault(field.getName(), 0), field.getInt(null));
            } else {
                CHECKS.holds(field + " is private", Modifier.isPrivate(kind));
            }
            CHECKS.holds(field + " is no static state", !Modifier.isStatic(kind) || Modifier.isFinal(kind));
        }
        CHECKS.due("public constants", 5, found);
    }

    private static void classesInside() {
        Set<String> names = new TreeSet<>();
        for (Method method : ConkerHeirs.class.getDeclaredMethods()) {
            if (Modifier.isPublic(method.getModifiers())) {
                names.add(method.getName());
            }
        }
        Class<?>[] inside = ConkerHeirs.class.getDeclaredClasses();
        CHECKS.holds("at most twelve classes", inside.length < 12);
        for (Class<?> kind : inside) {
            CHECKS.holds(kind + " is static, and private", Modifier.isStatic(kind.getModifiers())
                && Modifier.isPrivate(kind.getModifiers()));
            CHECKS.holds(kind + " has few fields", kind.getDeclaredFields().length <= 20);
            for (Method method : kind.getDeclaredMethods()) {
                CHECKS.holds(method + " has a name of its own", !names.contains(method.getName()));
            }
        }
    }

    private static void source() throws IOException {
        String text = Files.readString(SOURCE);
        CHECKS.holds("plain characters", text.chars().allMatch(c -> c == '\n' || c >= 32 && c < 127));
        String code = text.replaceAll("(?s)/\\*.*?\\*/", "").replaceAll("//[^\n]*", "");
        for (String banned : BANNED) {
            CHECKS.holds("no " + banned, !Pattern.compile(banned).matcher(code).find());
        }
        // the rooms are made with the object, none in a call
        Matcher made = Pattern.compile("(?m)^(.*)\\bnew\\b(.*)$").matcher(code);
        while (made.find()) {
            String line = made.group().trim();
            CHECKS.holds("made in a constructor: " + line,
                line.matches("(private )?final .* = new .*;") || line.equals("states[i] = new State();"));
        }
        for (String method : code.split("\n    (    )?\\}\n")) {
            CHECKS.holds("a short method: " + method.trim().split("\n")[0], method.split("\n").length <= 60);
        }
    }

    /** A run of 512 constructors must stay far below the 600,000 objects and 7.3 million elements of the room. */
    private static void room() throws IllegalAccessException {
        Map<Object, Boolean> seen = new IdentityHashMap<>();
        long elements = elementsOf(new ConkerHeirs(), seen);
        CHECKS.holds(seen.size() + " objects", seen.size() * 512L < 100_000);
        CHECKS.holds(elements + " fields and elements", elements * 512L < 1_500_000);
    }

    private static long elementsOf(Object object, Map<Object, Boolean> seen) throws IllegalAccessException {
        if (object == null || seen.put(object, true) != null) {
            return 0;
        }
        long sum = 0;
        if (object.getClass().isArray()) {
            sum = Array.getLength(object);
            for (int i = 0; !object.getClass().getComponentType().isPrimitive() && i < Array.getLength(object); i++) {
                sum += elementsOf(Array.get(object, i), seen);
            }
            return sum;
        }
        for (Field field : object.getClass().getDeclaredFields()) {
            if (!Modifier.isStatic(field.getModifiers())) {
                field.setAccessible(true);
                sum += 1 + (field.getType().isPrimitive() ? 0 : elementsOf(field.get(object), seen));
            }
        }
        return sum;
    }
}
