import java.io.IOException;
import java.nio.file.Files;
import java.nio.file.Path;

/** Each sentence of "Terms" and of promises 1 to 42 has checks of its own, at the edges that it names. */
public final class EdgesTest {
    public static void main(String[] args) throws IOException {
        Sentences sentences = new Sentences(Files.readString(Path.of(args[0]).resolve("DOC.md")));
        new TermsEdges(sentences).run();
        new LockTermsEdges(sentences).run();
        new MembersEdges(sentences).run();
        new ClientsEdges(sentences).run();
        new AskingEdges(sentences).run();
        new LooksEdges(sentences).run();
        new WholeEdges(sentences).run();
        sentences.finish("EdgesTest");
    }
}
