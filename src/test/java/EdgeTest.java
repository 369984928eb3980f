import java.io.IOException;

/**
 * Each sentence of the document that names a boundary, at that boundary: the last value that is allowed and the first
 * that is not, the empty and the full, the call that is refused and that nothing has changed behind it.
 */
public final class EdgeTest {
    public static void main(String[] args) throws IOException {
        Sentences doc = new Sentences();
        new TextEdges(doc).all();
        new SettingEdges(doc).all();
        new SackEdges(doc).all();
        new PackEdges(doc).all();
        new WorksEdges(doc).all();
        new SavedEdges(doc).all();
        new RepeatEdges(doc).all();
        new RefusedEdges(doc).all();
        new DigestEdges(doc).all();
        doc.end();
    }
}
