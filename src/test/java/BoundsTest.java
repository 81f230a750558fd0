import java.io.IOException;
import java.nio.file.Path;

/** The boundary cases of the document, sentence by sentence; it fails, too, if a sentence of promises 1 to 44 or of 'Terms' has none. */
public final class BoundsTest {
    public static void main(String[] args) throws IOException {
        Bounds bounds = new Bounds(Path.of("../shared/DOC.md"));
        new TermsBounds(bounds).all();
        new AtticBounds(bounds).all();
        new HourBounds(bounds).all();
        new TextBounds(bounds).all();
        new SheetBounds(bounds).all();
        new RowBounds(bounds).all();
        bounds.end("BoundsTest");
    }
}
