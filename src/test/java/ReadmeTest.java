import java.io.File;
import java.lang.reflect.Method;
import java.lang.reflect.Modifier;
import java.nio.file.Files;
import java.nio.file.Path;
import java.util.HashMap;
import java.util.LinkedHashMap;
import java.util.List;
import java.util.Map;
import java.util.Set;
import java.util.TreeSet;
import java.util.regex.Matcher;
import java.util.regex.Pattern;

/** README.md: the calls that it shows, as one run, answer as it says; no call and no test is left out. */
public final class ReadmeTest {
    private static final Path README = Path.of("README.md");
    private static final Path TESTS = Path.of("src/test/java");
    private static final Pattern BLOCK = Pattern.compile("(?ms)^```java\n(.*?)^```$");
    private static final Pattern CALL = Pattern.compile("(x\\.(\\w+)\\([^\"\\\\]*?\\));\\s*// (-?\\d+|[A-Z]+)(:.*)?");
    private static final Pattern TEST = Pattern.compile("`(\\w+Test)`");
    private static final Due due = new Due();

    private final Set<String> calls = new TreeSet<>();
    private final Set<String> names = new TreeSet<>();
    private final StringBuilder body = new StringBuilder();

    public static void main(String[] args) throws Exception {
        String readme = Files.readString(README);
        ReadmeTest test = new ReadmeTest();
        Matcher blocks = BLOCK.matcher(readme);
        while (blocks.find()) {
            blocks.group(1).lines().forEach(test::read);
        }
        test.answersAsShown();
        test.showsEveryCall();
        namesEveryTest(readme);
        due.is("README.md says how to run the tests", readme.contains("\n.ci/run\n") ? 1 : 0, 1);
        due.end();
    }

    /** A call that stands by itself has to say its answer; all else is taken as it is. */
    private void read(String line) {
        Matcher call = CALL.matcher(line);
        if (!call.matches()) {
            due.is("says no answer: " + line, line.startsWith("x.") ? 1 : 0, 0);
            body.append(line).append('\n');
            return;
        }
        String answer = call.group(3);
        boolean named = Character.isLetter(answer.charAt(0));
        calls.add(call.group(2));
        if (named) {
            names.add(answer);
        }
        body.append("told.put(told.size() + 1 + \": ").append(call.group(1)).append("\", new long[] {")
            .append(call.group(1)).append(", ").append(named ? "LeastMissed." + answer : answer + "L").append("});\n");
    }

    private void answersAsShown() throws ReflectiveOperationException {
        String code = "import java.util.Map;\npublic final class Shown {\n"
            + "public static void run(Map<String, long[]> told) {\n" + body + "}\n}\n";
        Map<String, byte[]> classes = new HashMap<>();
        String said = JavaText.compile("Shown", code, classes);
        due.is("README.md does not compile: " + said, said.length(), 0);
        if (!said.isEmpty()) {
            return;
        }
        Map<String, long[]> told = new LinkedHashMap<>();
        new ShownLoader(classes).loadClass("Shown").getMethod("run", Map.class).invoke(null, told);
        told.forEach((call, row) -> due.is("README.md, call " + call, row[0], row[1]));
    }

    private void showsEveryCall() {
        for (Method method : LeastMissed.class.getDeclaredMethods()) {
            if (Modifier.isPublic(method.getModifiers())) {
                String name = method.getName();
                due.is("README.md shows " + name + "()", calls.contains(name) ? 1 : 0, 1);
            }
        }
        for (String name : List.of("NONE", "UNKNOWN", "OUTSIDE", "STATE", "FULL")) {
            due.is("README.md shows " + name, names.contains(name) ? 1 : 0, 1);
        }
    }

    private static void namesEveryTest(String readme) {
        Set<String> named = new TreeSet<>();
        TEST.matcher(readme).results().forEach(found -> named.add(found.group(1)));
        Set<String> there = new TreeSet<>();
        for (File file : TESTS.toFile().listFiles((folder, name) -> name.endsWith("Test.java"))) {
            there.add(file.getName().replace(".java", ""));
        }
        due.is("README.md names " + named + ", there are " + there, named.equals(there) ? 1 : 0, 1);
    }

    private static final class ShownLoader extends ClassLoader {
        private final Map<String, byte[]> classes;

        ShownLoader(Map<String, byte[]> classes) {
            super(ReadmeTest.class.getClassLoader());
            this.classes = classes;
        }

        @Override
        protected Class<?> findClass(String name) throws ClassNotFoundException {
            byte[] code = classes.get(name);
            if (code == null) {
                throw new ClassNotFoundException(name);
            }
            return defineClass(name, code, 0, code.length);
        }
    }
}
