import java.util.LinkedHashSet;
import java.util.Set;
import java.util.function.IntSupplier;
import java.util.function.IntUnaryOperator;

/** Compares answers with those that are due, and ends a test with exit code 1 if one was not. */
final class Due {
    private final Set<String> told = new LinkedHashSet<>();
    private final Set<String> broken = new LinkedHashSet<>();
    private final StringBuilder complaints = new StringBuilder();
    private final String only;
    private String about = "";
    private int asked = 0;
    private int wrong = 0;

    Due() {
        this("");
    }

    /** Runs the test of one sentence alone, if it is named. */
    Due(String only) {
        this.only = only;
    }

    void is(String call, long got, long want) {
        asked++;
        if (got != want) {
            complain(call + " answered " + got + ", due is " + want);
        }
    }

    private void complain(String what) {
        wrong++;
        complaints.append(about).append(about.isEmpty() ? "" : ": ").append(what).append('\n');
        if (!about.isEmpty()) {
            broken.add(about);
        }
    }

    /** One sentence of the document, by its place there, and the test that holds it. */
    void sentence(String name, Runnable test) {
        int before = asked;
        about = name;
        if (!told.add(name)) {
            complain("is told twice");
        }
        if (!only.isEmpty() && !only.equals(name)) {
            return;
        }
        try {
            test.run();
        } catch (RuntimeException | StackOverflowError thrown) {
            complain("threw " + thrown);
        }
        if (asked == before) {
            complain("asks nothing");
        }
        about = "";
    }

    /** A refusal: its answer, and that digest() and every count() are as they were. */
    void refused(String call, LeastMissed x, int refusal, IntSupplier ask) {
        onlyTells(call, x, refusal, ask);
    }

    /** Refused for the first numbers outside the range, on both sides, and for the least and the greatest int. */
    void outside(String call, LeastMissed x, int low, int high, int refusal, IntUnaryOperator ask) {
        for (int number : new int[] {low - 1, high + 1, Integer.MIN_VALUE, Integer.MAX_VALUE}) {
            refused(call.replace("#", "" + number), x, refusal, () -> ask.applyAsInt(number));
        }
    }

    /** That a call which only tells something leaves digest() and every count() as they were. */
    void onlyTells(String call, LeastMissed x, int answer, IntSupplier ask) {
        is(call, answerThatChangesNothing(call, x, ask), answer);
    }

    /** The same, where it is no matter here what it tells. */
    void onlyTells(String call, LeastMissed x, IntSupplier ask) {
        int answer = answerThatChangesNothing(call, x, ask);
        is(call + " again", ask.getAsInt(), answer);
    }

    private int answerThatChangesNothing(String call, LeastMissed x, IntSupplier ask) {
        long digest = x.digest();
        int[] counts = counts(x);
        int answer = ask.getAsInt();
        is(call + ", then digest()", x.digest(), digest);
        int[] then = counts(x);
        for (int what = 0; what < counts.length; what++) {
            is(call + ", then count(" + what + ")", then[what], counts[what]);
        }
        return answer;
    }

    Set<String> told() {
        return told;
    }

    Set<String> broken() {
        return broken;
    }

    void end() {
        System.out.print(complaints);
        String sentences = told.isEmpty() ? "" : told.size() + " sentences, ";
        System.out.println(sentences + asked + " answers, " + wrong + " of them not as due");
        if (wrong != 0 || asked == 0) {
            System.exit(1);
        }
    }

    static int[] counts(LeastMissed x) {
        int[] counts = new int[12];
        for (int what = 0; what < counts.length; what++) {
            counts[what] = x.count(what);
        }
        return counts;
    }

    /** Puts the text behind what the page has. */
    static LeastMissed write(LeastMissed x, String text) {
        for (int i = 0; i < text.length(); i++) {
            x.letter(text.charAt(i));
        }
        return x;
    }

    static LeastMissed page(String text) {
        return write(new LeastMissed(), text);
    }

    static LeastMissed house(String text) {
        return reads(new LeastMissed(), text);
    }

    /** Another house for the same object. */
    static LeastMissed reads(LeastMissed x, String text) {
        write(x, text);
        x.house();
        return x;
    }

    static LeastMissed days(LeastMissed x, int days) {
        for (int i = 0; i < days; i++) {
            x.day();
        }
        return x;
    }

    static LeastMissed touches(LeastMissed x, int thing, int times) {
        for (int i = 0; i < times; i++) {
            x.touch(thing);
        }
        return x;
    }

    static LeastMissed takes(LeastMissed x, int times) {
        for (int i = 0; i < times; i++) {
            x.take();
        }
        return x;
    }
}
