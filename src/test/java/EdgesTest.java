import java.io.IOException;
import java.nio.file.Path;

/** Each sentence of the document, with a test of its own. */
public final class EdgesTest {
    public static void main(String[] args) throws IOException {
        Document document = new Document(Path.of(args[1]));
        SceneEdges.tell(document);
        EditEdges.tell(document);
        MeasureEdges.tell(document);
        FileEdges.tell(document);
        ToldEdges.tell(document);
        FrameEdges.tell(document);
        AskedEdges.tell(document);
        WouldBeEdges.tell(document);
        ToldRows.tell(document);
        AskedRows.tell(document);
        document.end();
        Checks.end();
    }
}
