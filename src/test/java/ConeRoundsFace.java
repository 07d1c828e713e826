import java.io.IOException;
import java.lang.reflect.Constructor;
import java.lang.reflect.Field;
import java.lang.reflect.Method;
import java.lang.reflect.Modifier;
import java.nio.file.Files;
import java.nio.file.Path;
import java.util.Set;
import java.util.TreeSet;
import java.util.regex.Matcher;
import java.util.regex.Pattern;

/**
 * The public face is the document's and no more, the words that LANGUAGE.md bars stay out, and the
 * sizes that it tells are kept.
 */
public final class ConeRoundsFace {
    private static final String[] FACE = {
        "street 1", "way 3", "wish 3", "heat 1", "van 1", "as 2", "stock 2", "licence 2", "law 3",
        "may 3", "worth 2", "plan 3", "stop 4", "left 3", "stand 3", "wrong 1", "clear 0",
        "holder 1", "gets 4", "balance 4", "together 3", "credit 1", "bill 2", "pay 2", "owed 2",
        "tell 1", "check 1", "count 1", "found 1"
    };
    private static final String[] BARRED = {
        "\\bthrow\\b", "\\bthrows\\b", "\\btry\\b", "\\bcatch\\b", "\\bsynchronized\\b",
        "\\bassert\\b", "\\bimport\\b", "\\bpackage\\b", "\\bprotected\\b", "->", "::", "@\\w+",
        "Exact\\b", "\\bstatic\\s*\\{", "\\bSystem\\.(?!arraycopy)", "\\bObject\\b"
    };
    private static final Set<Class<?>> CONSTANTS = Set.of(int.class, long.class, boolean.class,
        char.class, String.class, int[].class, long[].class, char[].class, byte[].class);
    private static final Path PROGRAM = Path.of("src/main/java/ConeRounds.java");
    private static final int MOST_CLASSES = 12;
    private static final int MOST_FIELDS = 20;
    private static final int MOST_PARAMETERS = 7;
    private static final int MOST_LINES = 60;
    private static int wrong = 0;

    private static void due(String what, Object got, Object want) {
        if (!want.equals(got)) {
            wrong++;
            System.out.println(what + ": " + got + ", due is " + want);
        }
    }

    private static void checkClass() {
        int modifiers = ConeRounds.class.getModifiers();
        due("the class is public", Modifier.isPublic(modifiers), true);
        due("the class is final", Modifier.isFinal(modifiers), true);
        Constructor<?>[] made = ConeRounds.class.getDeclaredConstructors();
        due("constructors", made.length, 1);
        due("the constructor is public", Modifier.isPublic(made[0].getModifiers()), true);
        due("the constructor's parameters", made[0].getParameterCount(), 0);
    }

    private static void checkMethods() {
        Set<String> open = new TreeSet<>();
        Set<String> openNames = new TreeSet<>();
        for (Method m : ConeRounds.class.getDeclaredMethods()) {
            if (Modifier.isPublic(m.getModifiers())) {
                open.add(m.getName() + " " + m.getParameterCount());
                openNames.add(m.getName());
                due(m.getName() + " answers", m.getReturnType(), int.class);
                for (Class<?> type : m.getParameterTypes()) {
                    due(m.getName() + " takes", type, int.class);
                }
            }
        }
        due("public methods", open, new TreeSet<>(Set.of(FACE)));
        checkHidden(ConeRounds.class, openNames);
    }

    private static void checkHidden(Class<?> outer, Set<String> openNames) {
        for (Method m : outer.getDeclaredMethods()) {
            if (!Modifier.isPublic(m.getModifiers())) {
                due(m.getName() + " is private", Modifier.isPrivate(m.getModifiers()), true);
                due(m.getName() + " bears a public name", openNames.contains(m.getName()), false);
            }
        }
        for (Field f : outer.getDeclaredFields()) {
            due(f.getName() + " is private", Modifier.isPrivate(f.getModifiers()), true);
        }
        for (Class<?> inside : outer.getDeclaredClasses()) {
            due(inside.getName() + " is static", Modifier.isStatic(inside.getModifiers()), true);
            for (Method m : inside.getDeclaredMethods()) {
                due(m.getName() + " bears a public name", openNames.contains(m.getName()), false);
            }
        }
    }

    private static void checkSizes(Class<?> each) {
        int fields = 0;
        for (Field f : each.getDeclaredFields()) {
            if (Modifier.isStatic(f.getModifiers())) {
                due(f.getName() + " is final", Modifier.isFinal(f.getModifiers()), true);
                due(f.getName() + " is a constant", CONSTANTS.contains(f.getType()), true);
            } else {
                fields++;
            }
        }
        due(each.getName() + " has few fields", fields <= MOST_FIELDS, true);
        for (Method m : each.getDeclaredMethods()) {
            due(m.getName() + " takes few", m.getParameterCount() <= MOST_PARAMETERS, true);
        }
    }

    private static void checkAllSizes() {
        Class<?>[] inside = ConeRounds.class.getDeclaredClasses();
        due("few classes", inside.length < MOST_CLASSES, true);
        checkSizes(ConeRounds.class);
        for (Class<?> each : inside) {
            checkSizes(each);
        }
    }

    /** A method opens with a line that ends in ") {" and closes with a brace as far to the right. */
    private static void checkLengths() throws IOException {
        Pattern opens = Pattern.compile("( {4}| {8})(?!if|for|while|switch)[a-z].*\\) \\{");
        String[] lines = Files.readString(PROGRAM).split("\n");
        int methods = 0;
        for (int i = 0; i < lines.length; i++) {
            Matcher head = opens.matcher(lines[i]);
            if (head.matches()) {
                int end = i;
                while (end < lines.length && !lines[end].equals(head.group(1) + "}")) {
                    end++;
                }
                methods++;
                due("short: " + lines[i].trim(), end - i < MOST_LINES, true);
            }
        }
        due("all methods of the face were looked at", methods > FACE.length, true);
    }

    private static void checkWords() throws IOException {
        String text = Files.readString(PROGRAM);
        String code = text.replaceAll("(?s)/\\*.*?\\*/", "").replaceAll("//[^\n]*", "");
        for (String barred : BARRED) {
            due("holds " + barred, Pattern.compile(barred).matcher(code).find(), false);
        }
    }

    public static void main(String[] args) throws IOException {
        checkClass();
        checkMethods();
        checkAllSizes();
        checkLengths();
        checkWords();
        System.out.println(wrong == 0 ? "the face is as due" : wrong + " rows are not as due");
        if (wrong != 0) {
            System.exit(1);
        }
    }
}
