import java.util.ArrayList;
import java.util.List;

/** All cases that the sentences of the document name. */
final class Edges {
    private final List<Edge> all = new ArrayList<>();

    void add(int promise, String sentence, String title, String script) {
        all.add(new Edge(promise, sentence, title, script));
    }

    List<Edge> all() {
        return all;
    }
}
