import java.util.Set;

/** Every sentence that names a boundary, with the tests that hold them. */
final class Edges {
    private Edges() {
    }

    private static Due told(Due due) {
        HouseEdgesTest.tell(due);
        TermEdgesTest.tell(due);
        DoneEdgesTest.tell(due);
        WouldBeEdgesTest.tell(due);
        SeenEdgesTest.tell(due);
        AllEdgesTest.tell(due);
        RefusalEdgesTest.tell(due);
        return due;
    }

    static Set<String> told() {
        return told(new Due()).told();
    }

    /** Whether the program does not keep that sentence. */
    static boolean isBroken(String sentence) {
        return told(new Due(sentence)).broken().contains(sentence);
    }
}
