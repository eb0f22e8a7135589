/** The document's sentences one by one: what is taken last, what is refused first, and that a refused call changes nothing. */
public final class EdgeTest {
    public static void main(String[] args) throws Exception {
        Edge edge = new Edge();
        new EdgesOfLand(edge).run();
        new EdgesOfTexts(edge).run();
        new EdgesOfActs(edge).run();
        new EdgesOfHearings(edge).run();
        new EdgesOfSigns(edge).run();
        new EdgesOfPapers(edge).run();
        new EdgesOfImages(edge).run();
        new EdgesOfSlots(edge).run();
        edge.end();
    }
}
