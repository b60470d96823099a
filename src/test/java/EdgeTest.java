/**
 * Each sentence of the document's Terms and promises by itself: at the boundary that it names and on both sides of
 * it, and, where nothing is to happen, that later calls answer as if the call had not been. No sentence is left out:
 * Doc tells the words that no test quotes.
 */
public final class EdgeTest {
    private EdgeTest() {
    }

    public static void main(String[] args) {
        Edge e = new Edge();
        TermOne.hold(e);
        TermTwo.hold(e);
        TermThree.hold(e);
        TermFour.hold(e);
        TermsFiveAndSix.hold(e);
        TermSeven.hold(e);
        PromisesOfTheBook.hold(e);
        PromisesOfLaws.hold(e);
        PromisesOfTwo.holdTwo(e);
        PromisesOfOwn.hold(e);
        PromisesOfTwo.holdMoved(e);
        PromisesOfJourneys.hold(e);
        PromisesOfWorlds.hold(e);
        e.close("EdgeTest");
    }
}
