import java.util.ArrayList;
import java.util.List;
import java.util.regex.Matcher;
import java.util.regex.Pattern;

/**
 * A case that a sentence of the document names, shown by a run of calls on a new object.
 *
 * <p>A row of the run is "call = answer", or a call alone, which then must not throw. "3 times call"
 * makes it three times. "line(8) = 0101" compares the bits on the line from index 8 on, and
 * "write(8, 0101)" turns bits over until these stand there.
 */
final class Edge {
    private static final Pattern ROW = Pattern.compile("(?:(\\d+) times )?(\\w+)\\((.*)\\)(?: = (\\S+))?");

    private record Row(int times, String name, String[] arguments, String due) {
        boolean isRefused() {
            return due != null && due.startsWith("throws.");
        }

        @Override
        public String toString() {
            return name + "(" + String.join(", ", arguments) + ")";
        }
    }

    final int promise;
    final String sentence;
    private final String title;
    private final List<Row> rows = new ArrayList<>();

    Edge(int promise, String sentence, String title, String script) {
        this.promise = promise;
        this.sentence = sentence;
        this.title = title;
        for (String line : script.split("\n")) {
            if (!line.isBlank()) {
                rows.add(row(line.strip()));
            }
        }
    }

    private static Row row(String line) {
        Matcher m = ROW.matcher(line);
        if (!m.matches()) {
            throw new IllegalStateException("not a row: " + line);
        }
        String[] arguments = m.group(3).isEmpty() ? new String[0] : m.group(3).split(", ");
        return new Row(m.group(1) == null ? 1 : Integer.parseInt(m.group(1)), m.group(2), arguments, m.group(4));
    }

    String name() {
        return "promise " + promise + ", \"" + sentence + "\", " + title;
    }

    void run() {
        Caller x = new Caller();
        for (Row row : rows) {
            for (int i = 0; i < row.times; i++) {
                compare(row, make(row, x));
            }
        }
        for (int i = 0; i < rows.size(); i++) {
            if (rows.get(i).isRefused()) {
                showNothingChanged(i);
            }
        }
    }

    private void compare(Row row, String answer) {
        String what = name() + ": " + row;
        if (row.due == null) {
            Check.holds(what + " is taken, it answered " + answer, !answer.startsWith("throws."));
        } else {
            Check.same(what, row.due, answer);
        }
    }

    private static String make(Row row, Caller x) {
        switch (row.name) {
            case "line":
                return x.line(Integer.parseInt(row.arguments[0]), row.due.length());
            case "write":
                return x.write(Integer.parseInt(row.arguments[0]), row.arguments[1]);
            default:
                return x.call(row.name, row.arguments);
        }
    }

    /** Of two objects only one gets the refused call; from then on both must answer alike. */
    private void showNothingChanged(int refused) {
        Caller with = new Caller();
        Caller without = new Caller();
        for (Row row : rows.subList(0, refused)) {
            for (int i = 0; i < row.times; i++) {
                make(row, with);
                make(row, without);
            }
        }
        make(rows.get(refused), with);
        with.told().clear();
        without.told().clear();
        askEverything(with);
        askEverything(without);
        String what = name() + ": after the refused " + rows.get(refused);
        for (int i = 0; i < Math.max(with.told().size(), without.told().size()); i++) {
            Check.same(what, toldAt(without, i), toldAt(with, i));
        }
    }

    private static String toldAt(Caller x, int i) {
        return i < x.told().size() ? x.told().get(i) : "nothing more";
    }

    private static void askEverything(Caller x) {
        askCounts(x);
        int points = x.number("points");
        for (int i = 0; i < points; i++) {
            x.call("place", i);
            askReceived(x, i);
        }
        askDerived(x);
        for (int offset = 0; offset < 64; offset++) {
            x.call("matches", offset);
        }
        askBits(x);
        // what is hidden in the object shows in what it does next
        for (int i = 0; i < points; i++) {
            x.call("put", "" + i, "1");
        }
        for (int i = 0; i < 8; i++) {
            x.call("derive", "" + i, "0", "" + (100 + (i + 1) % 8), "0");
        }
        x.call("addPoint", "1", "0", "1", "false");
        x.call("send", "8");
        x.call("receive", "4096");
        askCounts(x);
        for (int i = 0; i < points; i++) {
            askReceived(x, i);
        }
        askDerived(x);
    }

    private static void askCounts(Caller x) {
        for (String name : List.of("points", "spare", "sent", "onLine", "state", "taken", "frames", "lost",
                "repeats", "number")) {
            x.call(name);
        }
        x.call("bestOffset");
    }

    private static void askReceived(Caller x, int point) {
        x.call("value", point);
        x.call("time", point);
        x.call("samples", point);
        x.call("missing", point);
    }

    private static void askDerived(Caller x) {
        for (int i = 0; i < 8; i++) {
            x.call("derivedValue", i);
            x.call("derivedTime", i);
        }
    }

    /** The first bits on the line and the last one, for a long line has more of them than calls are left. */
    private static void askBits(Caller x) {
        int bits = x.number("onLine");
        for (int i = 0; i < Math.min(bits, 96); i++) {
            x.call("bit", i);
        }
        x.call("bit", bits - 1);
        x.call("bit", bits);
    }
}
