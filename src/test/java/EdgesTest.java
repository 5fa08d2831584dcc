/** Each sentence of the document's terms and promises, with checks of its own; no sentence may be left out. */
public final class EdgesTest {
    public static void main(String[] args) {
        EdgesOfTerms.run();
        EdgesOfMoney.run();
        EdgesOfUndo.run();
        EdgesOfTexts.run();
        EdgesOfPens.run();
        EdgesOfPieces.run();
        EdgesOfLooks.run();
        EdgesOfWouldBe.run();
        Sentences.allSaid();
        Due.end();
    }
}
