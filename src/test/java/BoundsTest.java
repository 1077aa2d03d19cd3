import java.io.IOException;
import java.nio.file.Path;

/** Each sentence of the document that names a bound, with a test of its own. */
public final class BoundsTest {
    public static void main(String[] args) throws IOException {
        String root = args.length > 0 ? args[0] : ".";
        BoundsOfTerms.ask();
        BoundsOfPicture.ask();
        BoundsOfPicks.ask();
        BoundsOfTexts.ask();
        BoundsOfProperties.ask();
        BoundsOfAreas.ask();
        Doc.compare(Path.of(root, "../shared/DOC.md"));
        Check.close();
    }
}
