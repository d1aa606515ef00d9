import java.util.List;

/** The three examples of the document, each on a new object, with no other calls between. */
public final class ExamplesTest {
    private static final List<String> EXAMPLES = List.of(
            "reset(2,2,12) = 24; storeSubsets(1) = 2; want(0,0) = -1; want(1,1) = -1; bound() = 6; schedule(1) = 6;"
            + " pending(0) = 4098; send(0) = 3; proof(0,1) = 1; decode(0,1) = 48; need(0) = 5; schedule(0) = 10;"
            + " schedule(3) = 5; sharedRate() = 1056964608",
            "reset(1,2,1) = 12; plan(0,3,2) = 1; plan(0,4,7) = 2; idle(1) = 1; cached(0,4) = 1; idle(1) = 0;"
            + " count(6) = 1; want(1,0) = -1; sum(24L) = 1; send(0) = 3; decode(0,3) = 122; decode(1,3) = -1;"
            + " user(1,4) = 1",
            "type(119) = 1; type(48) = 2; type(48) = 3; type(59) = 4; type(115) = 5; type(48) = 6; type(59) = 7;"
            + " type(108) = 8; type(48) = 9; type(59) = 10; type(108) = 11; type(48) = 12; type(59) = 13; run() = 3;"
            + " why() = -102");

    public static void main(String[] args) {
        if (Document.isHere() && !Document.examples().equals(EXAMPLES)) {
            Run.complain("the document has other examples: " + Document.examples());
        }
        for (int i = 0; i < EXAMPLES.size(); i++) {
            new Run("example " + (i + 1)).withoutLooks().calls(EXAMPLES.get(i));
        }
        Run.end();
    }
}
