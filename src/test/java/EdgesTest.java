import java.io.IOException;

/** Each sentence of the document's promises by itself, and each that names an edge ahead of them. */
public final class EdgesTest {
    private EdgesTest() {
    }

    public static void main(String[] args) throws IOException {
        Edges e = new Edges();
        new TownEdges(e).run();
        new PeopleEdges(e).run();
        new TextEdges(e).run();
        new MinuteEdges(e).run();
        new MarkEdges(e).run();
        new WalkEdges(e).run();
        new VoiceEdges(e).run();
        new SheetEdges(e).run();
        new ImageEdges(e).run();
        new RefusedEdges(e).run();
        e.end();
    }
}
