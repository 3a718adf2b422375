import java.util.ArrayList;
import java.util.List;

/** The sentences of the document that cases can quote: those of the terms and those of each promise. */
final class Sentences {
    private static final int TERMS = 0;
    private static final int OTHER = -1;

    private record Sentence(int promise, String text) {
    }

    private final List<Sentence> all = new ArrayList<>();

    Sentences(List<String> document) {
        int promise = OTHER;
        for (String line : document) {
            if (line.startsWith("## ")) {
                promise = sectionOf(line);
            } else if (promise == TERMS) {
                addTerms(line);
            } else if (promise != OTHER && !line.isBlank()) {
                all.add(new Sentence(promise, ofPromise(line)));
            }
        }
    }

    private static int sectionOf(String heading) {
        if (heading.equals("## Terms")) {
            return TERMS;
        }
        if (heading.startsWith("## Promise ")) {
            return Integer.parseInt(heading.substring(11, heading.indexOf(':')));
        }
        return OTHER;
    }

    /** Words alone are headings, and which calls stand below which heading is nothing that a call can show. */
    private void addTerms(String line) {
        for (String sentence : line.split("(?<=\\.|\\.\\)) (?=[A-Z(])")) {
            if (sentence.indexOf(' ') > 0 && !sentence.startsWith("Ahead of the calls ")) {
                all.add(new Sentence(TERMS, sentence));
            }
        }
    }

    /** Without the signature or the sign of a list before it. */
    private static String ofPromise(String line) {
        if (line.startsWith("- ")) {
            return line.substring(2);
        }
        return line.startsWith("`") ? line.substring(line.indexOf("`: ") + 3) : line;
    }

    void compareWith(List<Edge> edges) {
        for (Edge edge : edges) {
            boolean found = false;
            for (Sentence sentence : all) {
                found |= quotes(edge, sentence);
            }
            Check.holds("the document has the sentence of " + edge.name(), found);
        }
        for (Sentence sentence : all) {
            boolean found = false;
            for (Edge edge : edges) {
                found |= quotes(edge, sentence);
            }
            Check.holds("a case quotes, for the promise " + sentence.promise + ", " + sentence.text, found);
        }
    }

    private static boolean quotes(Edge edge, Sentence sentence) {
        boolean here = sentence.promise == TERMS || sentence.promise == edge.promise;
        return here && sentence.text.contains(edge.sentence);
    }
}
