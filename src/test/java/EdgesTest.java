import java.io.IOException;
import java.nio.file.Files;
import java.nio.file.Path;

/** Every case that a sentence of the document names, each shown by a run of its own: promises 1 to 28. */
public final class EdgesTest {
    private static final Path DOCUMENT = Path.of("../shared/DOC.md");

    private EdgesTest() {
    }

    public static void main(String[] args) throws IOException {
        Edges edges = new Edges();
        EdgesOfPoints.addTo(edges);
        EdgesOfTheLine.addTo(edges);
        EdgesOfTheReceiver.addTo(edges);
        EdgesOfDecoding.addTo(edges);
        EdgesOfDerivedPoints.addTo(edges);
        EdgesOfTheSecondWay.addTo(edges);
        for (Edge edge : edges.all()) {
            edge.run();
        }
        if (Files.isReadable(DOCUMENT)) {
            new Sentences(Files.readAllLines(DOCUMENT)).compareWith(edges.all());
        } else {
            System.out.println("EdgesTest: no " + DOCUMENT + ", so its sentences were not compared");
        }
        System.out.println("EdgesTest: " + edges.all().size() + " cases");
        Check.end("EdgesTest");
    }
}
