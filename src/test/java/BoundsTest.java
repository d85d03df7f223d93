import java.io.IOException;
import java.nio.file.Path;

/** Every sentence of the document that names a boundary case, each with a test of its own. */
public final class BoundsTest {
    private BoundsTest() {
    }

    public static void main(String[] args) throws IOException {
        Path shared = Path.of(args.length > 1 ? args[1] : "../shared");
        Bounds.begin(new Document(shared.resolve("DOC.md")));
        TextBounds.all();
        StepBounds.all();
        AskedBounds.all();
        Ranges.all();
        Bounds.areAll();
        Kit.end();
    }
}
