/** The cases that the sentences on points name: promises 1 to 6. */
final class EdgesOfPoints {
    private EdgesOfPoints() {
    }

    static void addTo(Edges edges) {
        newObject(edges);
        widthOfAPoint(edges);
        otherParametersOfAPoint(edges);
        numberOfAPoint(edges);
        refusedPoints(edges);
        fieldOfAPoint(edges);
        placeOfAPoint(edges);
        points(edges);
        place(edges);
        spare(edges);
        put(edges);
        ranges(edges);
    }

    private static void newObject(Edges edges) {
        String s = "Creates a packer without points, and its receiver.";
        edges.add(1, s, "there is no point yet", """
            points() = 0
            spare() = 192
            place(0) = throws.IndexOutOfBoundsException
            put(0, 0) = throws.IndexOutOfBoundsException
            addPoint(1, 0, 1, false) = 0
            """);
        edges.add(1, s, "nothing was sent yet", """
            sent() = 0
            onLine() = 0
            bit(0) = throws.IndexOutOfBoundsException
            flip(0) = throws.IndexOutOfBoundsException
            cut(0, 1) = throws.IndexOutOfBoundsException
            send(1) = 8
            """);
        edges.add(1, s, "nothing was received yet", """
            state() = 0
            taken() = 0
            frames() = 0
            lost() = 0
            repeats() = 0
            number() = throws.NoSuchElementException
            value(0) = throws.IndexOutOfBoundsException
            time(0) = throws.IndexOutOfBoundsException
            samples(0) = throws.IndexOutOfBoundsException
            missing(0) = throws.IndexOutOfBoundsException
            receive(1) = 0
            """);
        edges.add(1, s, "no derived point is set yet", """
            derivedValue(0) = throws.NoSuchElementException
            derivedValue(7) = throws.NoSuchElementException
            derivedTime(0) = throws.NoSuchElementException
            derivedTime(7) = throws.NoSuchElementException
            """);
        edges.add(1, s, "no sync word was taken yet", """
            matches(0) = 0
            matches(63) = 0
            bestOffset() = 0
            """);
    }

    private static void widthOfAPoint(Edges edges) {
        String s = "`width`: 1 to 12, but at least 2 if the convention is not 0";
        edges.add(2, s, "the least width", """
            addPoint(1, 0, 1, false) = 0
            points() = 1
            spare() = 188
            """);
        edges.add(2, s, "the greatest width", """
            addPoint(12, 0, 1, false) = 0
            addPoint(12, 1, 1, false) = 1
            addPoint(12, 2, 1, false) = 2
            addPoint(12, 3, 1, false) = 3
            spare() = 0
            """);
        edges.add(2, s, "too small", """
            addPoint(0, 0, 1, false) = throws.IllegalArgumentException
            addPoint(-1, 0, 1, false) = throws.IllegalArgumentException
            addPoint(MIN, 0, 1, false) = throws.IllegalArgumentException
            points() = 0
            spare() = 192
            """);
        edges.add(2, s, "too large", """
            addPoint(13, 0, 1, false) = throws.IllegalArgumentException
            addPoint(13, 1, 1, false) = throws.IllegalArgumentException
            addPoint(13, 2, 1, false) = throws.IllegalArgumentException
            addPoint(13, 3, 1, false) = throws.IllegalArgumentException
            addPoint(MAX, 0, 1, false) = throws.IllegalArgumentException
            points() = 0
            spare() = 192
            """);
        edges.add(2, s, "the least width of the other conventions", """
            addPoint(2, 1, 1, false) = 0
            addPoint(2, 2, 1, false) = 1
            addPoint(2, 3, 1, false) = 2
            spare() = 168
            """);
        edges.add(2, s, "too small for the other conventions", """
            addPoint(1, 1, 1, false) = throws.IllegalArgumentException
            addPoint(1, 2, 1, false) = throws.IllegalArgumentException
            addPoint(1, 3, 1, false) = throws.IllegalArgumentException
            addPoint(0, 1, 1, false) = throws.IllegalArgumentException
            points() = 0
            spare() = 192
            """);
    }

    private static void otherParametersOfAPoint(Edges edges) {
        edges.add(2, "`convention`: 0 to 3", "the least and the greatest", """
            addPoint(4, 0, 1, false) = 0
            addPoint(4, 3, 1, false) = 1
            """);
        edges.add(2, "`convention`: 0 to 3", "too small and too large", """
            addPoint(4, -1, 1, false) = throws.IllegalArgumentException
            addPoint(4, 4, 1, false) = throws.IllegalArgumentException
            addPoint(4, MIN, 1, false) = throws.IllegalArgumentException
            addPoint(4, MAX, 1, false) = throws.IllegalArgumentException
            points() = 0
            spare() = 192
            """);
        edges.add(2, "`period`: 1, 2 or 4", "each of them", """
            addPoint(4, 0, 1, false) = 0
            spare() = 176
            addPoint(4, 0, 2, false) = 1
            spare() = 168
            addPoint(4, 0, 4, false) = 2
            spare() = 164
            """);
        edges.add(2, "`period`: 1, 2 or 4", "none of them", """
            addPoint(4, 0, 0, false) = throws.IllegalArgumentException
            addPoint(4, 0, 3, false) = throws.IllegalArgumentException
            addPoint(4, 0, 5, false) = throws.IllegalArgumentException
            addPoint(4, 0, 8, false) = throws.IllegalArgumentException
            addPoint(4, 0, -1, false) = throws.IllegalArgumentException
            addPoint(4, 0, -2, false) = throws.IllegalArgumentException
            addPoint(4, 0, MIN, false) = throws.IllegalArgumentException
            addPoint(4, 0, MAX, false) = throws.IllegalArgumentException
            points() = 0
            spare() = 192
            """);
        String s = "`twice`: whether it is sampled twice, which is only possible with the period 1";
        edges.add(2, s, "with the period 1", """
            addPoint(4, 0, 1, true) = 0
            spare() = 160
            addPoint(4, 0, 1, false) = 1
            spare() = 144
            """);
        edges.add(2, s, "with other periods", """
            addPoint(4, 0, 2, true) = throws.IllegalArgumentException
            addPoint(4, 0, 4, true) = throws.IllegalArgumentException
            addPoint(4, 0, 3, true) = throws.IllegalArgumentException
            points() = 0
            spare() = 192
            """);
    }

    private static void numberOfAPoint(Edges edges) {
        edges.add(2, "Adds a point.", "the first one", """
            points() = 0
            addPoint(5, 1, 2, false) = 0
            points() = 1
            """);
        edges.add(2, "Returns its number.", "the first and the last one", """
            addPoint(1, 0, 1, false) = 0
            10 times addPoint(1, 0, 1, false)
            addPoint(1, 0, 1, false) = 11
            """);
        edges.add(2, "Returns its number.", "behind a refused one", """
            addPoint(1, 0, 1, false) = 0
            addPoint(0, 0, 1, false) = throws.IllegalArgumentException
            addPoint(1, 0, 1, false) = 1
            """);
        edges.add(2, "Points are numbered from 0; there are at most 12.", "the twelfth and the thirteenth", """
            addPoint(1, 0, 4, false) = 0
            10 times addPoint(1, 0, 4, false)
            addPoint(1, 0, 4, false) = 11
            addPoint(1, 0, 4, false) = throws.IllegalStateException
            points() = 12
            """);
        edges.add(2, "A point has a width of bits, a sign convention, a period of 1, 2 or 4 frames, and is sampled"
            + " once or twice in each frame in which it is sent (twice only with the period 1).",
            "twice with the period 2", """
            addPoint(3, 0, 2, true) = throws.IllegalArgumentException
            addPoint(3, 0, 2, false) = 0
            addPoint(3, 0, 1, true) = 1
            """);
    }

    private static void refusedPoints(Edges edges) {
        edges.add(2, "Throws `IllegalArgumentException` if the parameters are not as told", "none is as told", """
            addPoint(0, -1, 3, true) = throws.IllegalArgumentException
            addPoint(13, 4, 0, true) = throws.IllegalArgumentException
            points() = 0
            """);
        String s = "Throws `IllegalStateException` if there are 12 points, there is no place for it,"
            + " or a word was sent";
        edges.add(2, s, "there are 12 points", """
            12 times addPoint(1, 0, 1, false)
            addPoint(1, 0, 1, false) = throws.IllegalStateException
            points() = 12
            spare() = 144
            place(12) = throws.IndexOutOfBoundsException
            """);
        edges.add(2, s, "there are 11 points", """
            11 times addPoint(1, 0, 1, false)
            addPoint(1, 0, 1, false) = 11
            """);
        edges.add(2, s, "all bits are used", """
            4 times addPoint(12, 0, 1, false)
            addPoint(1, 0, 1, false) = throws.IllegalStateException
            addPoint(1, 0, 1, true) = throws.IllegalStateException
            addPoint(1, 0, 2, false) = throws.IllegalStateException
            addPoint(1, 0, 4, false) = throws.IllegalStateException
            points() = 4
            spare() = 0
            """);
        edges.add(2, s, "one bit is left", """
            3 times addPoint(12, 0, 1, false)
            addPoint(11, 0, 1, false) = 3
            addPoint(2, 0, 1, false) = throws.IllegalStateException
            addPoint(1, 0, 1, false) = 4
            place(4) = 47
            """);
        edges.add(2, s, "the bits that are left do not lie side by side", """
            addPoint(8, 0, 1, true) = 0
            addPoint(12, 0, 1, false) = 1
            addPoint(12, 0, 1, false) = 2
            spare() = 32
            addPoint(5, 0, 1, false) = throws.IllegalStateException
            addPoint(4, 0, 1, false) = 3
            place(3) = 20
            addPoint(4, 0, 1, false) = 4
            place(4) = 44
            """);
        edges.add(2, s, "a word was sent", """
            addPoint(4, 0, 1, false) = 0
            send(1) = 8
            addPoint(4, 0, 1, false) = throws.IllegalStateException
            points() = 1
            spare() = 176
            """);
        edges.add(2, s, "a word was sent and taken, or cut out", """
            send(2) = 16
            receive(8) = 0
            cut(0, 8) = 0
            addPoint(4, 0, 1, false) = throws.IllegalStateException
            points() = 0
            """);
        edges.add(2, s, "no word was sent by refused calls", """
            send(0) = throws.IllegalArgumentException
            send(65) = throws.IllegalArgumentException
            addPoint(4, 0, 1, false) = 0
            """);
        bothExceptions(edges);
    }

    private static void bothExceptions(Edges edges) {
        String s = "If several exceptions apply, the one that is documented first is thrown.";
        edges.add(2, s, "12 points and wrong parameters", """
            12 times addPoint(1, 0, 1, false)
            addPoint(0, 0, 1, false) = throws.IllegalArgumentException
            addPoint(1, 1, 1, false) = throws.IllegalArgumentException
            points() = 12
            """);
        edges.add(2, s, "no place and wrong parameters", """
            4 times addPoint(12, 0, 1, false)
            addPoint(13, 0, 1, false) = throws.IllegalArgumentException
            addPoint(4, 0, 4, true) = throws.IllegalArgumentException
            points() = 4
            """);
        edges.add(2, s, "a word was sent and wrong parameters", """
            send(1) = 8
            addPoint(4, 4, 1, false) = throws.IllegalArgumentException
            addPoint(4, 0, 3, false) = throws.IllegalArgumentException
            addPoint(4, 0, 1, false) = throws.IllegalStateException
            """);
    }

    private static void fieldOfAPoint(Edges edges) {
        String s = "all its bits lie within the bits 16 to 63, or, if it is sampled twice, each time within 24 bits,"
            + " that is, its offset and its width together are at most 24.";
        edges.add(2, s, "the bits 16 and 63", """
            addPoint(1, 0, 1, false) = 0
            3 times addPoint(12, 0, 1, false)
            addPoint(10, 0, 1, false) = 4
            addPoint(1, 0, 1, false) = 5
            put(0, 1) = 0
            put(5, 1) = 0
            send(8) = 64
            line(8) = 00000000100000000000000000000000000000000000000000000001
            """);
        edges.add(2, s, "offset and width are 24 together", """
            addPoint(12, 0, 1, false) = 0
            addPoint(11, 0, 1, false) = 1
            addPoint(1, 0, 1, true) = 2
            place(2) = 23
            """);
        edges.add(2, s, "offset and width would be 25 together", """
            addPoint(12, 0, 1, false) = 0
            addPoint(11, 0, 1, false) = 1
            addPoint(2, 0, 1, true) = throws.IllegalStateException
            addPoint(2, 0, 1, false) = 2
            place(2) = 23
            """);
        edges.add(2, s, "24 bits are used once", """
            addPoint(12, 0, 1, false) = 0
            addPoint(12, 0, 1, false) = 1
            addPoint(1, 0, 1, true) = throws.IllegalStateException
            addPoint(1, 0, 1, false) = 2
            place(2) = 24
            """);
        edges.add(2, s, "only the second sample has no place", """
            addPoint(12, 0, 1, true) = 0
            addPoint(11, 0, 1, false) = 1
            addPoint(12, 0, 1, false) = 2
            addPoint(1, 0, 1, true) = throws.IllegalStateException
            addPoint(1, 0, 1, false) = 3
            place(3) = 23
            """);
    }

    private static void placeOfAPoint(Edges edges) {
        String s = "When a point is added, it gets the place with the lowest phase, and of these the lowest offset,"
            + " at which none of its bits is used by another point in a frame of any counter.";
        edges.add(2, s, "the lowest phase goes before the lowest offset", """
            addPoint(12, 0, 4, false) = 0
            addPoint(12, 0, 4, false) = 1
            place(1) = 12
            addPoint(12, 0, 2, false) = 2
            place(2) = 24
            """);
        edges.add(2, s, "a phase that is full", """
            4 times addPoint(12, 0, 4, false)
            addPoint(12, 0, 4, false) = 4
            place(4) = 100
            addPoint(12, 0, 2, false) = 5
            place(5) = 112
            addPoint(1, 0, 1, false) = throws.IllegalStateException
            """);
        edges.add(2, s, "phases that other periods use", """
            4 times addPoint(12, 0, 2, false)
            4 times addPoint(12, 0, 4, false)
            place(4) = 100
            place(7) = 136
            addPoint(12, 0, 4, false) = 8
            place(8) = 300
            """);
        edges.add(2, s, "the phase 2 of the period 4", """
            4 times addPoint(12, 0, 4, false)
            4 times addPoint(12, 0, 4, false)
            addPoint(1, 0, 4, false) = 8
            place(8) = 200
            addPoint(1, 0, 2, false) = throws.IllegalStateException
            """);
        edges.add(2, s, "a gap between others that is just wide enough", """
            addPoint(3, 0, 1, false) = 0
            addPoint(5, 0, 1, true) = 1
            addPoint(12, 0, 1, false) = 2
            addPoint(8, 0, 1, false) = 3
            addPoint(7, 0, 1, false) = 4
            place(1) = 3
            place(2) = 8
            place(3) = 32
            place(4) = 20
            """);
    }

    private static void points(Edges edges) {
        String s = "Returns the number of points.";
        edges.add(3, s, "none", """
            points() = 0
            """);
        edges.add(3, s, "the most", """
            11 times addPoint(1, 0, 1, false)
            points() = 11
            addPoint(1, 0, 1, false) = 11
            points() = 12
            """);
        edges.add(3, s, "refused ones do not count", """
            addPoint(12, 0, 1, false) = 0
            addPoint(13, 0, 1, false) = throws.IllegalArgumentException
            points() = 1
            3 times addPoint(12, 0, 1, false)
            addPoint(12, 0, 1, false) = throws.IllegalStateException
            points() = 4
            send(1) = 8
            points() = 4
            """);
    }

    private static void place(Edges edges) {
        edges.add(4, "Returns the place of a point.", "the first point of a frame", """
            addPoint(12, 0, 1, false) = 0
            place(0) = 0
            """);
        edges.add(4, "`point`: its number", "the first and the last", """
            12 times addPoint(4, 0, 1, false)
            place(0) = 0
            place(11) = 44
            """);
        String s = "Returns 100 times the phase plus the offset.";
        edges.add(4, s, "the greatest", """
            3 times addPoint(12, 0, 1, false)
            addPoint(11, 0, 1, false) = 3
            4 times addPoint(1, 0, 4, false)
            place(3) = 36
            place(4) = 47
            place(5) = 147
            place(6) = 247
            place(7) = 347
            """);
        edges.add(4, s, "the greatest of the period 2", """
            3 times addPoint(12, 0, 1, false)
            addPoint(11, 0, 1, false) = 3
            2 times addPoint(1, 0, 2, false)
            place(4) = 47
            place(5) = 147
            """);
        s = "Throws `IndexOutOfBoundsException` if there is no such point";
        edges.add(4, s, "no point yet", """
            place(0) = throws.IndexOutOfBoundsException
            addPoint(1, 0, 1, false) = 0
            place(0) = 0
            """);
        edges.add(4, s, "too small and too large", """
            addPoint(1, 0, 1, false) = 0
            place(-1) = throws.IndexOutOfBoundsException
            place(1) = throws.IndexOutOfBoundsException
            place(MIN) = throws.IndexOutOfBoundsException
            place(MAX) = throws.IndexOutOfBoundsException
            place(0) = 0
            """);
        edges.add(4, s, "with twelve points", """
            12 times addPoint(1, 0, 1, false)
            place(12) = throws.IndexOutOfBoundsException
            place(11) = 11
            """);
    }

    private static void spare(Edges edges) {
        String s = "Counts the bits that no point uses, over the frames of four consecutive counters together.";
        edges.add(5, s, "one bit of each period", """
            addPoint(1, 0, 4, false) = 0
            spare() = 191
            addPoint(1, 0, 2, false) = 1
            spare() = 189
            addPoint(1, 0, 1, false) = 2
            spare() = 185
            addPoint(1, 0, 1, true) = 3
            spare() = 177
            """);
        s = "Returns the number of bits, at most 192.";
        edges.add(5, s, "the most", """
            spare() = 192
            """);
        edges.add(5, s, "the least", """
            3 times addPoint(12, 0, 1, false)
            addPoint(11, 0, 1, false) = 3
            spare() = 4
            3 times addPoint(1, 0, 4, false)
            spare() = 1
            addPoint(1, 0, 4, false) = 7
            spare() = 0
            send(1) = 8
            spare() = 0
            """);
        edges.add(5, s, "refused points use none", """
            addPoint(4, 0, 3, false) = throws.IllegalArgumentException
            spare() = 192
            send(1) = 8
            addPoint(4, 0, 1, false) = throws.IllegalStateException
            spare() = 192
            """);
    }

    private static void put(Edges edges) {
        edges.add(6, "Sets the present value of a point.", "each point has its own", """
            2 times addPoint(4, 0, 1, false)
            put(0, 9) = 0
            put(1, 6) = 0
            put(0, 0) = 9
            put(1, 0) = 6
            """);
        edges.add(6, "`point`: its number", "the first and the last", """
            12 times addPoint(4, 0, 1, false)
            put(0, 15) = 0
            put(11, 15) = 0
            put(11, 0) = 15
            """);
        edges.add(6, "`value`: the value", "the same one again", """
            addPoint(4, 1, 1, false) = 0
            put(0, -8) = 0
            put(0, -8) = -8
            put(0, 0) = -8
            """);
        edges.add(6, "Returns the present value before.", "nothing was put yet", """
            addPoint(12, 3, 1, false) = 0
            put(0, -2048) = 0
            put(0, 2047) = -2048
            put(0, 0) = 2047
            """);
        edges.add(6, "Each point has a present value, 0 at first.", "nothing was put before the first frame", """
            addPoint(4, 0, 1, false) = 0
            addPoint(4, 3, 1, false) = 1
            addPoint(4, 1, 1, false) = 2
            send(8) = 64
            line(16) = 0000100000000000
            put(1, 0) = 0
            """);
        String s = "Throws `IndexOutOfBoundsException` if there is no such point";
        edges.add(6, s, "no point yet", """
            put(0, 0) = throws.IndexOutOfBoundsException
            addPoint(1, 0, 1, false) = 0
            put(0, 0) = 0
            """);
        edges.add(6, s, "too small and too large", """
            addPoint(1, 0, 1, false) = 0
            put(0, 1) = 0
            put(-1, 0) = throws.IndexOutOfBoundsException
            put(1, 0) = throws.IndexOutOfBoundsException
            put(12, 0) = throws.IndexOutOfBoundsException
            put(MIN, 0) = throws.IndexOutOfBoundsException
            put(MAX, 0) = throws.IndexOutOfBoundsException
            put(0, 0) = 1
            """);
        edges.add(6, "If several exceptions apply, the one that is documented first is thrown.",
            "no such point and no such value", """
            addPoint(4, 0, 1, false) = 0
            put(1, 16) = throws.IndexOutOfBoundsException
            put(-1, -1) = throws.IndexOutOfBoundsException
            put(12, MAX) = throws.IndexOutOfBoundsException
            put(0, 0) = 0
            """);
        edges.add(6, "A method that throws an exception changes nothing.", "the next frame has the value before", """
            addPoint(4, 0, 1, false) = 0
            put(0, 5) = 0
            put(0, 16) = throws.IllegalArgumentException
            put(1, 9) = throws.IndexOutOfBoundsException
            send(3) = 24
            line(16) = 01010000
            put(0, 0) = 5
            """);
    }

    private static void ranges(Edges edges) {
        range(edges, "0, unsigned: v from 0 to 2^b - 1, as a binary number", 0, 1, 0, 1);
        range(edges, "0, unsigned: v from 0 to 2^b - 1, as a binary number", 0, 12, 0, 4095);
        range(edges, "1, two's complement: v from -2^(b-1) to 2^(b-1) - 1", 1, 2, -2, 1);
        range(edges, "1, two's complement: v from -2^(b-1) to 2^(b-1) - 1", 1, 12, -2048, 2047);
        range(edges, "2, sign and magnitude: v from -(2^(b-1) - 1) to 2^(b-1) - 1", 2, 2, -1, 1);
        range(edges, "2, sign and magnitude: v from -(2^(b-1) - 1) to 2^(b-1) - 1", 2, 12, -2047, 2047);
        range(edges, "3, offset: v from -2^(b-1) to 2^(b-1) - 1", 3, 2, -2, 1);
        range(edges, "3, offset: v from -2^(b-1) to 2^(b-1) - 1", 3, 12, -2048, 2047);
    }

    private static void range(Edges edges, String sentence, int convention, int width, int least, int most) {
        String point = "addPoint(" + width + ", " + convention + ", 1, false) = 0\n";
        edges.add(6, sentence, "the least and the greatest value of the width " + width, point
            + "put(0, " + least + ") = 0\n"
            + "put(0, " + most + ") = " + least + "\n"
            + "put(0, 0) = " + most + "\n");
        edges.add(6, "Throws `IllegalArgumentException` if value is not from the range of its convention and width",
            "of the convention " + convention + " and the width " + width, point
            + "put(0, " + most + ") = 0\n"
            + "put(0, " + (least - 1) + ") = throws.IllegalArgumentException\n"
            + "put(0, " + (most + 1) + ") = throws.IllegalArgumentException\n"
            + "put(0, MIN) = throws.IllegalArgumentException\n"
            + "put(0, MAX) = throws.IllegalArgumentException\n"
            + "put(0, " + least + ") = " + most + "\n");
    }
}
