import java.io.IOException;
import java.io.InputStream;
import java.lang.reflect.Method;
import java.nio.file.Files;
import java.nio.file.Path;
import java.util.ArrayList;
import java.util.HashMap;
import java.util.List;
import java.util.Map;
import java.util.Set;
import java.util.TreeSet;

/**
 * The tests of the tests: src/test/broken.txt has, for every sentence that is told, ways to break it in the
 * program; for each of them the test of that sentence has to fail. Run from the project's folder.
 */
public final class BrokenSentencesTest {
    private static final Path PROGRAM = Path.of("src/main/java/LeastMissed.java");
    private static final Path BREAKS = Path.of("src/test/broken.txt");
    private static final Due due = new Due();

    /** In the program, its comments and line ends left out, one text stands for another. */
    private record Break(String sentence, String text, String instead) {
        String name() {
            return sentence + " [" + text + " => " + instead + "]";
        }
    }

    public static void main(String[] args) throws Exception {
        String program = plain(Files.readString(PROGRAM));
        List<Break> breaks = readBreaks(Files.readAllLines(BREAKS));
        Set<String> told = Edges.told();
        Set<String> left = new TreeSet<>(told);
        for (Break one : breaks) {
            due.is(one.sentence + " is told", told.contains(one.sentence) ? 1 : 0, 1);
            left.remove(one.sentence);
        }
        due.is("sentences that nothing breaks: " + left, left.size(), 0);
        List<String> wrong = breaks.parallelStream().map(one -> faultOf(one, program)).toList();
        for (int i = 0; i < wrong.size(); i++) {
            due.is(breaks.get(i).name() + ": " + wrong.get(i), wrong.get(i).isEmpty() ? 1 : 0, 1);
        }
        due.end();
    }

    private static String plain(String text) {
        String code = text.replaceAll("(?s)/\\*.*?\\*/", "").replaceAll("//[^\n]*", "");
        return code.replaceAll("\\s+", " ").trim();
    }

    /** '=' a sentence, '-' what stands in the program, '+' what breaks it; a text may have several lines. */
    private static List<Break> readBreaks(List<String> lines) {
        List<Break> breaks = new ArrayList<>();
        String sentence = "";
        StringBuilder text = new StringBuilder();
        StringBuilder instead = new StringBuilder();
        List<String> rows = new ArrayList<>(lines);
        rows.add("");
        for (String row : rows) {
            boolean more = row.startsWith("- ") && instead.length() == 0 || row.startsWith("+");
            if (!more && text.length() > 0) {
                breaks.add(new Break(sentence, plain(text.toString()), plain(instead.toString())));
                text.setLength(0);
                instead.setLength(0);
            }
            if (row.startsWith("= ")) {
                sentence = row.substring(2);
            } else if (row.startsWith("- ")) {
                text.append(row.substring(2)).append(' ');
            } else if (row.startsWith("+")) {
                instead.append(row.substring(1)).append(' ');
            }
        }
        return breaks;
    }

    /** Empty, if the test of the sentence fails with the broken program. */
    private static String faultOf(Break one, String program) {
        int at = program.indexOf(one.text);
        if (at < 0 || program.indexOf(one.text, at + 1) >= 0) {
            return at < 0 ? "the program has no such text: renew it" : "the program has that text twice: tell more of it";
        }
        String broken = program.substring(0, at) + one.instead + program.substring(at + one.text.length());
        try {
            Map<String, byte[]> classes = new HashMap<>();
            String said = JavaText.compile("LeastMissed", broken, classes);
            if (!said.isEmpty()) {
                return "it does not compile: " + said;
            }
            return isBroken(one.sentence, classes) ? "" : "its test does not fail";
        } catch (ReflectiveOperationException thrown) {
            return "it cannot be run: " + thrown;
        }
    }

    private static boolean isBroken(String sentence, Map<String, byte[]> classes) throws ReflectiveOperationException {
        Class<?> edges = new BrokenLoader(classes).loadClass("Edges");
        Method method = edges.getDeclaredMethod("isBroken", String.class);
        method.setAccessible(true);
        return (Boolean) method.invoke(null, sentence);
    }

    /** Loads the tests anew, with the broken program in place of the other. */
    private static final class BrokenLoader extends ClassLoader {
        private final Map<String, byte[]> classes;

        BrokenLoader(Map<String, byte[]> classes) {
            super(ClassLoader.getPlatformClassLoader());
            this.classes = classes;
        }

        @Override
        protected Class<?> findClass(String name) throws ClassNotFoundException {
            try (InputStream file = BrokenSentencesTest.class.getResourceAsStream("/" + name + ".class")) {
                byte[] code = name.startsWith("LeastMissed") ? classes.get(name) : file.readAllBytes();
                return defineClass(name, code, 0, code.length);
            } catch (IOException thrown) {
                throw new ClassNotFoundException(name, thrown);
            }
        }
    }
}
