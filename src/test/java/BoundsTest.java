/**
 * Of each sentence of the document that names a bound: the last value that is allowed and the first that is not, the
 * empty and the full case, which exception comes first, and that a call that is refused changes nothing. Each test
 * quotes the words that it is about; this fails if the document does not have them, or has a sentence that no test
 * quotes and that is not one of those below.
 */
public final class BoundsTest {
    private static final String[] NAME_NO_BOUND = {"It tells who sits in which roll,", "Changes can be undone.",
        "MEMBERS, ROLLS", "NOTES", "What happens when a note comes:", "A TICK", "SETTINGS", "TEXT", "ACTIONS AND UNDO",
        "EXCEPTIONS", "Ahead of the calls "};

    private BoundsTest() {
    }

    public static void main(String[] args) {
        BoundsOfTerms.run();
        BoundsOfText.run();
        BoundsOfTells.run();
        BoundsOfActions.run();
        BoundsOfWhatWouldBe.run();
        BoundsOfScripts.run();
        for (String sentence : Document.unsaid()) {
            Checks.note(namesNoBound(sentence), "no test is about: " + sentence);
        }
        Checks.end("BoundsTest");
    }

    private static boolean namesNoBound(String sentence) {
        for (String words : NAME_NO_BOUND) {
            if (sentence.startsWith("Terms: " + words)) {
                return true;
            }
        }
        return false;
    }
}
