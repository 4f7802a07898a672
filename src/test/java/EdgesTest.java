/** Each sentence of the document's terms and promises with answers of its own: the least, the greatest, one beyond. */
public final class EdgesTest {
    public static void main(String[] args) throws java.io.IOException {
        Sentences s = new Sentences();
        EdgesOfPieces.ask(s);
        EdgesOfLaws.ask(s);
        EdgesOfShowings.ask(s);
        EdgesOfOrders.ask(s);
        EdgesOfSeen.ask(s);
        EdgesOfDeeds.ask(s);
        EdgesOfActs.ask(s);
        EdgesOfShelves.ask(s);
        EdgesOfRefusals.ask(s);
        s.finish();
    }
}
