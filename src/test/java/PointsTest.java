/** Promises 1 to 6: a new object, addPoint, points, place, spare, put. */
public final class PointsTest {
    public static void main(String[] args) {
        newObject();
        addedPointsAreNumbered();
        allowedPoints();
        refusedPoints();
        atMostTwelvePoints();
        noPlace();
        noPointAfterAWord();
        places();
        placesOfPeriods();
        placesOfPairs();
        everyOffsetOfAWidth();
        spareBits();
        putAnswersTheValueBefore();
        ranges();
        Check.end("PointsTest");
    }

    private static void newObject() {
        Commutator x = new Commutator();
        Check.due("points of a new object", 0, () -> x.points());
        Check.due("spare of a new object", 192, () -> x.spare());
        Check.due("sent of a new object", 0, () -> x.sent());
        Check.due("onLine of a new object", 0, () -> x.onLine());
        Check.due("state of a new object", 0, () -> x.state());
        Check.due("taken of a new object", 0, () -> x.taken());
        Check.due("frames of a new object", 0, () -> x.frames());
        Check.due("lost of a new object", 0, () -> x.lost());
        Check.due("repeats of a new object", 0, () -> x.repeats());
        Check.due("bestOffset of a new object", 0, () -> x.bestOffset());
        Check.noElement("number of a new object", x, () -> x.number());
        Check.noElement("derivedValue of a new object", x, () -> x.derivedValue(0));
        Check.noSuchIndex("place of a new object", x, () -> x.place(0));
        Check.noSuchIndex("bit of a new object", x, () -> x.bit(0));
        Commutator other = new Commutator();
        other.addPoint(4, 0, 1, false);
        other.send(1);
        Check.due("points beside another object", 0, () -> x.points());
        Check.due("onLine beside another object", 0, () -> x.onLine());
    }

    private static void addedPointsAreNumbered() {
        Commutator x = new Commutator();
        for (int i = 0; i < 12; i++) {
            Check.due("addPoint number " + i, i, () -> x.addPoint(2, 1, 4, false));
            Check.due("points after it", i + 1, () -> x.points());
        }
    }

    private static void allowedPoints() {
        for (int convention = 0; convention < 4; convention++) {
            for (int width = convention == 0 ? 1 : 2; width <= 12; width++) {
                for (int period = 1; period <= 4; period *= 2) {
                    Commutator x = new Commutator();
                    int w = width;
                    int c = convention;
                    int p = period;
                    Check.due("addPoint(" + w + ", " + c + ", " + p + ", false)", 0,
                            () -> x.addPoint(w, c, p, false));
                }
                Commutator x = new Commutator();
                int w = width;
                int c = convention;
                Check.due("addPoint(" + w + ", " + c + ", 1, true)", 0, () -> x.addPoint(w, c, 1, true));
            }
        }
    }

    private static void refusedPoints() {
        Commutator x = new Commutator();
        x.addPoint(3, 0, 1, false);
        int[] extremes = {Integer.MIN_VALUE, -1, 0, 13, 32, 33, Integer.MAX_VALUE};
        for (int width : extremes) {
            Check.badArgument("addPoint of width " + width, x, () -> x.addPoint(width, 0, 1, false));
        }
        for (int convention = 1; convention < 4; convention++) {
            int c = convention;
            Check.badArgument("addPoint(1, " + c + ", 1, false)", x, () -> x.addPoint(1, c, 1, false));
        }
        for (int convention : new int[] {Integer.MIN_VALUE, -1, 4, Integer.MAX_VALUE}) {
            Check.badArgument("addPoint of convention " + convention, x,
                    () -> x.addPoint(4, convention, 1, false));
        }
        for (int period : new int[] {Integer.MIN_VALUE, -2, -1, 0, 3, 5, 8, Integer.MAX_VALUE}) {
            Check.badArgument("addPoint of period " + period, x, () -> x.addPoint(4, 0, period, false));
            Check.badArgument("addPoint twice of period " + period, x,
                    () -> x.addPoint(4, 0, period, true));
        }
        Check.badArgument("addPoint(4, 0, 2, true)", x, () -> x.addPoint(4, 0, 2, true));
        Check.badArgument("addPoint(4, 0, 4, true)", x, () -> x.addPoint(4, 0, 4, true));
    }

    private static void atMostTwelvePoints() {
        Commutator x = new Commutator();
        for (int i = 0; i < 12; i++) {
            x.addPoint(1, 0, 1, false);
        }
        Check.badState("a thirteenth point", x, () -> x.addPoint(1, 0, 1, false));
        Check.badArgument("a thirteenth point of no width", x, () -> x.addPoint(0, 0, 1, false));
        Check.due("points then", 12, () -> x.points());
        Check.due("place of the last of twelve", 11, () -> x.place(11));
        Check.noSuchIndex("place(12) of twelve points", x, () -> x.place(12));
        Check.noSuchIndex("put(12, 0) of twelve points", x, () -> x.put(12, 0));
    }

    private static void noPlace() {
        Commutator x = new Commutator();
        for (int i = 0; i < 4; i++) {
            x.addPoint(12, 0, 1, false);
        }
        Check.due("spare of a full frame", 0, () -> x.spare());
        Check.badState("a point that finds no bit", x, () -> x.addPoint(1, 0, 4, false));

        Commutator y = new Commutator();
        for (int i = 0; i < 3; i++) {
            y.addPoint(12, 0, 1, false);
        }
        y.addPoint(1, 0, 2, false);
        Check.badState("a point of each frame beside one of every other", y,
                () -> y.addPoint(12, 0, 1, false));
        Check.due("a point of every other frame", 4, () -> y.addPoint(12, 0, 2, false));
        Check.due("place in the other frames", 136, () -> y.place(4));
        Check.badArgument("no place and no such convention", y, () -> y.addPoint(12, 4, 1, false));
    }

    private static void noPointAfterAWord() {
        Commutator x = new Commutator();
        x.addPoint(4, 0, 1, false);
        x.send(1);
        Check.badState("addPoint after a word", x, () -> x.addPoint(4, 0, 1, false));
        Check.badArgument("a wrong addPoint after a word", x, () -> x.addPoint(4, 0, 3, false));
        x.cut(0, 8);
        Check.badState("addPoint after a word that was cut out", x, () -> x.addPoint(4, 0, 1, false));
    }

    private static void places() {
        Commutator x = new Commutator();
        x.addPoint(5, 0, 1, false);
        x.addPoint(12, 1, 1, false);
        x.addPoint(1, 0, 1, false);
        Check.due("place(0)", 0, () -> x.place(0));
        Check.due("place(1)", 5, () -> x.place(1));
        Check.due("place(2)", 17, () -> x.place(2));
        Check.noSuchIndex("place(3)", x, () -> x.place(3));
        Check.noSuchIndex("place(-1)", x, () -> x.place(-1));
        Check.noSuchIndex("place(12)", x, () -> x.place(12));
        Check.noSuchIndex("place of the least int", x, () -> x.place(Integer.MIN_VALUE));
        Check.noSuchIndex("place of the greatest int", x, () -> x.place(Integer.MAX_VALUE));
    }

    private static void placesOfPeriods() {
        Commutator x = new Commutator();
        for (int i = 0; i < 3; i++) {
            x.addPoint(12, 0, 1, false);
        }
        x.addPoint(10, 0, 2, false);
        x.addPoint(10, 0, 4, false);
        x.addPoint(10, 0, 4, false);
        x.addPoint(2, 0, 1, false);
        Check.badState("a pair without free bits", x, () -> x.addPoint(1, 0, 1, true));
        Check.due("place of the period 2", 36, () -> x.place(3));
        Check.due("place of the period 4 beside it", 136, () -> x.place(4));
        Check.due("place of the next of the period 4", 336, () -> x.place(5));
        Check.due("place behind all", 46, () -> x.place(6));
        Check.due("points without the pair", 7, () -> x.points());
    }

    private static void placesOfPairs() {
        Commutator x = new Commutator();
        x.addPoint(3, 0, 1, false);
        x.addPoint(5, 0, 1, true);
        x.addPoint(12, 0, 1, false);
        x.addPoint(12, 0, 1, false);
        x.addPoint(4, 0, 1, true);
        Check.due("place of the pair", 3, () -> x.place(1));
        Check.due("place between its samples", 8, () -> x.place(2));
        Check.due("place behind its second sample", 32, () -> x.place(3));
        Check.due("place of the second pair", 20, () -> x.place(4));
        Check.due("spare of the pairs", 192 - 4 * (3 + 10 + 12 + 12 + 8), () -> x.spare());

        Commutator y = new Commutator();
        y.addPoint(12, 0, 1, true);
        y.addPoint(11, 0, 1, true);
        Check.badState("a pair that would reach beyond its 24 bits", y, () -> y.addPoint(2, 0, 1, true));
        Check.due("a pair that ends with its 24 bits", 2, () -> y.addPoint(1, 0, 1, true));
        Check.due("place of that", 23, () -> y.place(2));
    }

    private static void everyOffsetOfAWidth() {
        Commutator x = new Commutator();
        for (int i = 0; i < 12; i++) {
            int n = i;
            Check.due("addPoint(4) number " + n, n, () -> x.addPoint(4, 0, 1, false));
            Check.due("its place", 4 * n, () -> x.place(n));
        }
        Check.due("spare of twelve points of 4 bits", 0, () -> x.spare());
    }

    private static void spareBits() {
        Commutator x = new Commutator();
        x.addPoint(7, 0, 1, false);
        Check.due("spare beside a point of each frame", 164, () -> x.spare());
        x.addPoint(7, 0, 2, false);
        Check.due("spare beside one of every other frame", 150, () -> x.spare());
        x.addPoint(7, 0, 4, false);
        Check.due("spare beside one of every fourth frame", 143, () -> x.spare());
        x.addPoint(3, 0, 1, true);
        Check.due("spare beside a pair", 119, () -> x.spare());
        x.send(1);
        Check.due("spare after a word", 119, () -> x.spare());
    }

    private static void putAnswersTheValueBefore() {
        Commutator x = new Commutator();
        x.addPoint(4, 0, 1, false);
        x.addPoint(4, 1, 1, false);
        Check.due("the first put", 0, () -> x.put(0, 9));
        Check.due("the second put", 9, () -> x.put(0, 15));
        Check.due("the put of another point", 0, () -> x.put(1, -8));
        Check.badArgument("put(0, 16)", x, () -> x.put(0, 16));
        Check.due("a put after a refused one", 15, () -> x.put(0, 0));
        Check.due("the next put of the other point", -8, () -> x.put(1, 0));
        Check.noSuchIndex("put(2, 0)", x, () -> x.put(2, 0));
        Check.noSuchIndex("put(-1, 0)", x, () -> x.put(-1, 0));
        Check.noSuchIndex("put(2, 99999)", x, () -> x.put(2, 99999));
        x.send(8);
        Check.due("a put after a frame", 0, () -> x.put(0, 1));
    }

    private static void ranges() {
        for (int width = 1; width <= 12; width++) {
            int all = 1 << width;
            range(width, 0, 0, all - 1);
            if (width > 1) {
                range(width, 1, -all / 2, all / 2 - 1);
                range(width, 2, 1 - all / 2, all / 2 - 1);
                range(width, 3, -all / 2, all / 2 - 1);
            }
        }
    }

    private static void range(int width, int convention, int least, int most) {
        Commutator x = new Commutator();
        x.addPoint(width, convention, 1, false);
        String point = "put with width " + width + " and convention " + convention + " of ";
        Check.due(point + least, 0, () -> x.put(0, least));
        Check.due(point + most, least, () -> x.put(0, most));
        Check.badArgument(point + (least - 1), x, () -> x.put(0, least - 1));
        Check.badArgument(point + (most + 1), x, () -> x.put(0, most + 1));
        Check.badArgument(point + "the least int", x, () -> x.put(0, Integer.MIN_VALUE));
        Check.badArgument(point + "the greatest int", x, () -> x.put(0, Integer.MAX_VALUE));
        Check.due(point + "zero", most, () -> x.put(0, 0));
    }
}
