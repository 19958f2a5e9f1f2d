import java.lang.reflect.Constructor;
import java.lang.reflect.Field;
import java.lang.reflect.Method;
import java.lang.reflect.Modifier;
import java.nio.file.Files;
import java.nio.file.Path;
import java.util.Arrays;
import java.util.Set;
import java.util.TreeSet;
import java.util.regex.Pattern;

/** The rules of LANGUAGE.md that can be seen from the class and from its text. Run from the project's folder. */
public final class LanguageTest {
    private static final Path SOURCE = Path.of("src/main/java/LeastMissed.java");
    private static final String[] FACE = {
        "int letter(int)", "int blank()", "int fault()", "int house()", "int thing(int,int)", "int as(int,int)",
        "int touch(int)", "int day()", "int take()", "int redeem(int)", "int borrow(int)", "int change(int,int,int)",
        "int next(int)", "int siege(int,int)", "int makeUp(int)", "int odds(int,int,int)", "int sale()",
        "int see(int,int,int)", "int forget()", "int months(int,int,int)", "int image()", "int restore()",
        "int count(int)", "long digest()"};
    private static final Due due = new Due();

    public static void main(String[] args) throws Exception {
        constants();
        face();
        nested();
        text(Files.readString(SOURCE));
        due.end();
    }

    private static void constants() {
        due.is("NONE", LeastMissed.NONE, -1);
        due.is("UNKNOWN", LeastMissed.UNKNOWN, -101);
        due.is("OUTSIDE", LeastMissed.OUTSIDE, -102);
        due.is("STATE", LeastMissed.STATE, -103);
        due.is("FULL", LeastMissed.FULL, -104);
    }

    private static void face() {
        Class<?> type = LeastMissed.class;
        due.is("public and final", type.getModifiers(), Modifier.PUBLIC | Modifier.FINAL);
        Set<String> shown = new TreeSet<>();
        for (Method method : type.getDeclaredMethods()) {
            if (!Modifier.isPrivate(method.getModifiers())) {
                due.is(method + " is public and no more", method.getModifiers(), Modifier.PUBLIC);
                String taken = Arrays.toString(method.getParameterTypes()).replaceAll("[\\[\\] ]", "");
                shown.add(method.getReturnType() + " " + method.getName() + "(" + taken + ")");
            }
        }
        sameSet("methods", shown, new TreeSet<>(Arrays.asList(FACE)));
        Set<String> fields = new TreeSet<>();
        for (Field field : type.getDeclaredFields()) {
            if (!Modifier.isPrivate(field.getModifiers())) {
                fields.add(field.getName());
            }
            boolean loose = Modifier.isStatic(field.getModifiers()) && !Modifier.isFinal(field.getModifiers());
            due.is("static and not final: " + field, loose ? 1 : 0, 0);
        }
        sameSet("constants", fields, Set.of("NONE", "UNKNOWN", "OUTSIDE", "STATE", "FULL"));
        Constructor<?>[] constructors = type.getDeclaredConstructors();
        due.is("constructors", constructors.length, 1);
        due.is("their parameters", constructors[0].getParameterCount(), 0);
    }

    private static void sameSet(String what, Set<String> got, Set<String> want) {
        if (!got.equals(want)) {
            System.out.println(what + " are " + got + ", due are " + want);
        }
        due.is(what, got.equals(want) ? 1 : 0, 1);
    }

    private static void nested() {
        Class<?>[] classes = LeastMissed.class.getDeclaredClasses();
        due.is("twelve classes at most", classes.length <= 11 ? 1 : 0, 1);
        for (Class<?> type : classes) {
            due.is(type + " is static", Modifier.isStatic(type.getModifiers()) ? 1 : 0, 1);
            due.is(type + " is not shown", type.getModifiers() & (Modifier.PUBLIC | Modifier.PROTECTED), 0);
            due.is(type + " has twenty fields at most", type.getDeclaredFields().length <= 20 ? 1 : 0, 1);
            for (Method method : type.getDeclaredMethods()) {
                due.is(method + " takes seven at most", method.getParameterCount() <= 7 ? 1 : 0, 1);
                boolean same = Arrays.stream(FACE).anyMatch(row -> row.contains(" " + method.getName() + "("));
                due.is(method + " bears a name of its own", same ? 1 : 0, 0);
            }
        }
    }

    private static void text(String source) {
        String code = source.replaceAll("(?s)/\\*.*?\\*/", "").replaceAll("//[^\n]*", "");
        String[] none = {"\\bthrow\\b", "\\bthrows\\b", "\\btry\\b", "\\bcatch\\b", "\\bsynchronized\\b",
            "\\bassert\\b", "\\bimport\\b", "\\bpackage\\b", "\\bprotected\\b", "->", "::", "\\bstatic\\s*\\{",
            "Exact\\b", "Integer\\.[A-Z]", "\\bSystem\\.(?!arraycopy)", "\\bMath\\.(?!min|max|abs)", "@"};
        for (String pattern : none) {
            due.is("the text has " + pattern, Pattern.compile(pattern).matcher(code).find() ? 1 : 0, 0);
        }
        // The room: whatever is made is made with the object, and nothing by a call.
        for (String line : code.split("\n")) {
            boolean made = line.matches(".*\\bnew\\b.*");
            boolean kept = line.matches("\\s*(private )?final .* = new .*;");
            due.is("made by a call: " + line.trim(), made && !kept ? 1 : 0, 0);
        }
        boolean plain = source.chars().allMatch(c -> c == '\n' || c >= 32 && c < 127);
        due.is("plain signs alone", plain ? 1 : 0, 1);
    }
}
