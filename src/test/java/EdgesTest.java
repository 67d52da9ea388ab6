import java.io.IOException;
import java.nio.file.Files;
import java.nio.file.Path;

/** For each sentence of the document up to promise 41 a test of its own, at the edges that it names. */
public final class EdgesTest {
    public static void main(String[] args) throws IOException {
        Check check = new Check("EdgesTest");
        Edges edges = new Edges(check, Files.readString(Path.of(args[1])));
        FirstWordsEdges.all(edges);
        TermsEdges.all(edges);
        ChimneysEdges.all(edges);
        ObserversEdges.all(edges);
        TicksEdges.all(edges);
        ChangesEdges.all(edges);
        NoticesEdges.all(edges);
        ToComeEdges.all(edges);
        TextsEdges.all(edges);
        UndoEdges.all(edges);
        for (String start : new String[] {"What it is", "Terms", "Chimneys", "Ticks", "Texts", "Promise "}) {
            edges.allTold(start);
        }
        check.end();
    }
}
