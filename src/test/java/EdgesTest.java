/**
 * Each sentence of the document, and behind it what it is at its edges: too small, too large, empty, full, refused, or
 * wrapping around. At the end, no word under "Terms" or a promise may be left that no test has named.
 */
public final class EdgesTest {
    public static void main(String[] args) {
        EdgesOfTerms.run();
        EdgesOfTown.run();
        EdgesOfTalk.run();
        EdgesOfChoice.run();
        EdgesOfWord.run();
        EdgesOfWordings.run();
        EdgesOfDusk.run();
        EdgesOfRates.run();
        EdgesOfKept.run();
        Due.wholeDocument();
        Due.finish();
    }
}
