import java.io.IOException;
import java.nio.file.Files;
import java.nio.file.Path;

/** The boundary cases of all promises, sentence by sentence; its second argument is the document. */
public final class EdgeTest {
    public static void main(String[] args) throws IOException {
        RefusedEdges.all();
        LakeEdges.all();
        TextEdges.all();
        DaysEdges.all();
        KindsEdges.all();
        BearsEdges.all();
        VotesEdges.all();
        GuessEdges.all();
        RestEdges.all();
        if (args.length > 1 && Files.exists(Path.of(args[1]))) {
            Edge.lookUp(Path.of(args[1]));
        } else {
            System.out.println("the document isn't there: its words are not looked up");
        }
        Due.end();
    }
}
