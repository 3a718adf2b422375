/** The cases that the sentences on the line name: promises 7 to 12. */
final class EdgesOfTheLine {
    private EdgesOfTheLine() {
    }

    static void addTo(Edges edges) {
        send(edges);
        mostWords(edges);
        framesOfTheLine(edges);
        samplesOfTheLine(edges);
        codes(edges);
        sentAndOnLine(edges);
        bit(edges);
        flip(edges);
        cut(edges);
        refusedCuts(edges);
    }

    private static void send(Edges edges) {
        edges.add(7, "Sends words.", "the first one", """
            send(1) = 8
            line(0) = 10111000
            """);
        edges.add(7, "`words`: 1 to 64", "the least and the greatest", """
            send(1) = 8
            send(64) = 520
            sent() = 65
            """);
        edges.add(7, "`words`: 1 to 64", "one more than the least and one less than the greatest", """
            send(2) = 16
            send(63) = 520
            """);
        String s = "Returns how many bits are on the line then.";
        edges.add(7, s, "some were taken and some cut out", """
            send(2) = 16
            receive(5) = 0
            send(1) = 19
            cut(0, 3) = 16
            send(1) = 24
            """);
        edges.add(7, s, "all were taken", """
            send(3) = 24
            receive(24) = 0
            send(1) = 8
            """);
        edges.add(7, s, "the line is as long as it can be", """
            15 times send(64)
            send(40) = 8000
            onLine() = 8000
            """);
        s = "Throws `IllegalArgumentException` if words is out of range";
        edges.add(7, s, "too small and too large", """
            send(2) = 16
            send(0) = throws.IllegalArgumentException
            send(-1) = throws.IllegalArgumentException
            send(65) = throws.IllegalArgumentException
            send(MIN) = throws.IllegalArgumentException
            send(MAX) = throws.IllegalArgumentException
            sent() = 2
            onLine() = 16
            send(1) = 24
            line(16) = 00000000
            """);
    }

    private static void mostWords(Edges edges) {
        String s = "Throws `IllegalStateException` if more than 1000 words would have been sent in all";
        edges.add(7, s, "just 1000 words", """
            15 times send(64)
            send(40) = 8000
            sent() = 1000
            """);
        edges.add(7, s, "1001 words, after which 1000 can still be sent", """
            15 times send(64)
            send(41) = throws.IllegalStateException
            sent() = 960
            onLine() = 7680
            send(40) = 8000
            """);
        edges.add(7, s, "one word is left", """
            15 times send(64)
            send(39) = 7992
            send(2) = throws.IllegalStateException
            send(64) = throws.IllegalStateException
            send(1) = 8000
            """);
        edges.add(7, s, "no word is left", """
            15 times send(64)
            send(40) = 8000
            send(1) = throws.IllegalStateException
            sent() = 1000
            onLine() = 8000
            """);
        edges.add(7, s, "words that are no longer on the line count too", """
            15 times send(64)
            receive(4096) = 62
            cut(0, 3584) = 0
            send(41) = throws.IllegalStateException
            onLine() = 0
            send(40) = 320
            send(1) = throws.IllegalStateException
            sent() = 1000
            """);
        edges.add(7, "If several exceptions apply, the one that is documented first is thrown.",
            "no word is left and the number of words is out of range", """
            15 times send(64)
            send(40) = 8000
            send(0) = throws.IllegalArgumentException
            send(65) = throws.IllegalArgumentException
            send(MAX) = throws.IllegalArgumentException
            sent() = 1000
            """);
    }

    private static void framesOfTheLine(Edges edges) {
        edges.add(7, "A frame has 64 bits, numbered from 0 in the order in which they are sent, in 8 words of 8 bits.",
            "the last word of a frame and the first of the next one", """
            send(7) = 56
            send(1) = 64
            send(1) = 72
            line(56) = 0000000010111000
            """);
        edges.add(7, "The bits 0 to 7 are the sync word 1 0 1 1 1 0 0 0, the bits 8 to 15 are the counter of the frame,"
            + " the highest bit first, and the bits 16 to 63 are for points.", "the first and the last bit of each", """
            4 times addPoint(12, 0, 1, false)
            put(0, 2048) = 0
            put(3, 1) = 0
            send(16) = 128
            line(64) = 1011100000000001100000000000
            line(116) = 000000000001
            """);
        String s = "The counter of the first frame is 0, that of each further one is greater by 1,"
            + " and 0 again behind 255.";
        edges.add(7, s, "the first and the second frame", """
            send(16) = 128
            line(8) = 00000000
            line(72) = 00000001
            """);
        // 1000 words are 125 frames, so no counter behind 124 is sent; the receiver's cases go on to 255
        edges.add(7, s, "the last frame that can be sent", """
            15 times send(64)
            send(40) = 8000
            line(7880) = 01111011
            line(7944) = 01111100
            """);
        edges.add(7, "Words are sent one after the other, and their bits are put onto the line.",
            "behind those that are there", """
            send(1) = 8
            send(1) = 16
            cut(0, 15) = 1
            send(7) = 57
            line(49) = 10111000
            """);
    }

    private static void samplesOfTheLine(Edges edges) {
        String s = "A sample takes the present value of its point at the moment at which the word is sent in which"
            + " its first bit lies.";
        edges.add(7, s, "the first bit is the last one of a word", """
            addPoint(7, 0, 1, false) = 0
            addPoint(12, 0, 1, false) = 1
            put(1, 4095) = 0
            send(3) = 24
            put(1, 0) = 4095
            send(5) = 64
            line(16) = 00000001111111111110
            """);
        edges.add(7, s, "the first bit is the first one of a word", """
            addPoint(8, 0, 1, false) = 0
            addPoint(12, 0, 1, false) = 1
            send(3) = 24
            put(1, 4095) = 0
            send(1) = 32
            put(1, 0) = 4095
            send(4) = 64
            line(16) = 0000000011111111111100000000
            """);
        edges.add(7, s, "the second sample has a moment of its own", """
            addPoint(4, 0, 1, true) = 0
            put(0, 9) = 0
            send(5) = 40
            put(0, 6) = 9
            send(1) = 48
            put(0, 15) = 6
            send(2) = 64
            line(16) = 100100000000000000000000011000000000000000000000
            """);
        edges.add(7, s, "the next frame has the value that is put last", """
            addPoint(4, 0, 1, false) = 0
            put(0, 9) = 0
            send(8) = 64
            put(0, 6) = 9
            send(2) = 80
            put(0, 15) = 6
            send(1) = 88
            line(16) = 1001
            line(80) = 1111
            """);
        s = "Bits that belong to no point are 0.";
        edges.add(7, s, "no points", """
            send(8) = 64
            line(16) = 000000000000000000000000000000000000000000000000
            """);
        edges.add(7, s, "frames in which a point is not sent", """
            addPoint(12, 0, 4, false) = 0
            put(0, 4095) = 0
            send(40) = 320
            line(16) = 1111111111110
            line(80) = 000000000000
            line(144) = 000000000000
            line(208) = 000000000000
            line(272) = 111111111111
            """);
        edges.add(7, "it is sent in the frames whose counter has the remainder phase by its period, beginning at the"
            + " bit 16 + offset, and, if it is sampled twice, also at the bit 40 + offset",
            "the last phase and the last offset", """
            3 times addPoint(12, 0, 1, false)
            addPoint(11, 0, 1, false) = 3
            4 times addPoint(1, 0, 4, false)
            put(7, 1) = 0
            send(64) = 512
            line(63) = 0
            line(127) = 0
            line(191) = 0
            line(255) = 1
            line(511) = 1
            """);
    }

    private static void codes(Edges edges) {
        String highestFirst = "All are sent with the highest bit first.";
        code(edges, highestFirst, 0, 12, 1, "000000000001");
        code(edges, highestFirst, 0, 12, 2048, "100000000000");
        String unsigned = "0, unsigned: v from 0 to 2^b - 1, as a binary number";
        code(edges, unsigned, 0, 1, 1, "1");
        code(edges, unsigned, 0, 12, 4095, "111111111111");
        String complement = "1, two's complement: v from -2^(b-1) to 2^(b-1) - 1, where 2^b is added to values below 0";
        code(edges, complement, 1, 2, -2, "10");
        code(edges, complement, 1, 12, -2048, "100000000000");
        code(edges, complement, 1, 12, -1, "111111111111");
        code(edges, complement, 1, 12, 2047, "011111111111");
        String magnitude = "the highest bit is 1 for values below 0, and the others are the absolute value";
        code(edges, magnitude, 2, 2, -1, "11");
        code(edges, magnitude, 2, 12, -2047, "111111111111");
        code(edges, magnitude, 2, 12, -1, "100000000001");
        code(edges, magnitude, 2, 12, 0, "000000000000");
        code(edges, magnitude, 2, 12, 2047, "011111111111");
        String offset = "3, offset: v from -2^(b-1) to 2^(b-1) - 1, and 2^(b-1) is added";
        code(edges, offset, 3, 2, -2, "00");
        code(edges, offset, 3, 12, -2048, "000000000000");
        code(edges, offset, 3, 12, -1, "011111111111");
        code(edges, offset, 3, 12, 0, "100000000000");
        code(edges, offset, 3, 12, 2047, "111111111111");
    }

    private static void code(Edges edges, String sentence, int convention, int width, int value, String bits) {
        edges.add(7, sentence, value + " with the width " + width, "addPoint(3, 0, 1, false) = 0\n"
            + "addPoint(" + width + ", " + convention + ", 1, false) = 1\n"
            + "put(1, " + value + ") = 0\n"
            + "send(8) = 64\n"
            + "line(16) = 000" + bits + "0\n");
    }

    private static void sentAndOnLine(Edges edges) {
        String s = "Returns how many words were sent.";
        edges.add(8, s, "none yet", """
            sent() = 0
            """);
        edges.add(8, s, "the most", """
            15 times send(64)
            sent() = 960
            send(39) = 7992
            sent() = 999
            send(1) = 8000
            sent() = 1000
            """);
        edges.add(8, s, "neither refused calls nor the line change it", """
            send(3) = 24
            send(65) = throws.IllegalArgumentException
            receive(9) = 0
            cut(0, 15) = 0
            sent() = 3
            """);
        s = "Returns how many bits are on the line.";
        edges.add(9, s, "none yet", """
            onLine() = 0
            """);
        edges.add(9, s, "the most, and none again", """
            15 times send(64)
            send(40) = 8000
            onLine() = 8000
            receive(4096) = 62
            onLine() = 3904
            receive(4096) = 61
            onLine() = 0
            """);
        edges.add(9, s, "bits that were taken or cut out are not there", """
            send(2) = 16
            receive(1) = 0
            onLine() = 15
            cut(14, 1) = 14
            onLine() = 14
            flip(0) = 1
            onLine() = 14
            """);
    }

    private static void bit(Edges edges) {
        edges.add(10, "Returns a bit on the line.", "the bits of a word", """
            send(1) = 8
            bit(0) = 1
            bit(1) = 0
            bit(4) = 1
            bit(5) = 0
            onLine() = 8
            """);
        edges.add(10, "Returns 0 or 1.", "one that was turned over", """
            send(1) = 8
            flip(7) = 1
            bit(7) = 1
            flip(7) = 0
            bit(7) = 0
            """);
        edges.add(10, "`index`: 0 for the one that is taken next", "after some were taken", """
            send(1) = 8
            receive(2) = 0
            bit(0) = 1
            bit(2) = 1
            bit(3) = 0
            bit(5) = 0
            """);
        String s = "Throws `IndexOutOfBoundsException` if there is no such bit on the line";
        edges.add(10, s, "the line is empty", """
            bit(0) = throws.IndexOutOfBoundsException
            send(1) = 8
            receive(8) = 0
            bit(0) = throws.IndexOutOfBoundsException
            bit(-1) = throws.IndexOutOfBoundsException
            taken() = 8
            """);
        edges.add(10, s, "too small and too large", """
            send(2) = 16
            receive(3) = 0
            bit(12) = 0
            bit(13) = throws.IndexOutOfBoundsException
            bit(-1) = throws.IndexOutOfBoundsException
            bit(MIN) = throws.IndexOutOfBoundsException
            bit(MAX) = throws.IndexOutOfBoundsException
            onLine() = 13
            """);
        edges.add(10, s, "the longest line", """
            15 times send(64)
            send(40) = 8000
            bit(7936) = 1
            bit(7999) = 0
            bit(8000) = throws.IndexOutOfBoundsException
            onLine() = 8000
            """);
    }

    private static void flip(Edges edges) {
        edges.add(11, "Turns a bit on the line over.", "no other one", """
            send(1) = 8
            flip(3) = 0
            line(0) = 10101000
            """);
        edges.add(11, "Returns its value then.", "there and back", """
            send(1) = 8
            flip(0) = 0
            flip(0) = 1
            flip(1) = 1
            flip(1) = 0
            line(0) = 10111000
            """);
        edges.add(11, "`index`: 0 for the one that is taken next", "after some were taken", """
            send(2) = 16
            receive(8) = 0
            flip(0) = 1
            flip(7) = 1
            line(0) = 10000001
            """);
        String s = "Throws `IndexOutOfBoundsException` if there is no such bit on the line";
        edges.add(11, s, "the line is empty", """
            flip(0) = throws.IndexOutOfBoundsException
            send(1) = 8
            receive(8) = 0
            flip(0) = throws.IndexOutOfBoundsException
            flip(-1) = throws.IndexOutOfBoundsException
            matches(0) = 1
            """);
        edges.add(11, s, "too small and too large", """
            send(2) = 16
            receive(3) = 0
            flip(13) = throws.IndexOutOfBoundsException
            flip(-1) = throws.IndexOutOfBoundsException
            flip(MIN) = throws.IndexOutOfBoundsException
            flip(MAX) = throws.IndexOutOfBoundsException
            line(0) = 1100000000000
            flip(12) = 1
            """);
        edges.add(11, s, "the longest line", """
            15 times send(64)
            send(40) = 8000
            flip(8000) = throws.IndexOutOfBoundsException
            flip(7999) = 1
            flip(7999) = 0
            """);
        edges.add(11, s, "a bit that was cut out at the end is not there, and not turned over for the next word", """
            send(1) = 8
            cut(7, 1) = 7
            flip(7) = throws.IndexOutOfBoundsException
            send(1) = 15
            line(0) = 101110000000000
            """);
    }

    private static void cut(Edges edges) {
        String s = "Takes bits out of the line; nobody receives them.";
        edges.add(12, s, "from the middle", """
            send(1) = 8
            cut(1, 2) = 6
            line(0) = 111000
            receive(6) = 0
            taken() = 6
            """);
        edges.add(12, s, "all of them", """
            send(1) = 8
            cut(0, 8) = 0
            receive(8) = 0
            taken() = 0
            matches(0) = 0
            state() = 0
            """);
        edges.add(12, s, "what is sent then lies behind the bits that are left", """
            send(2) = 16
            cut(4, 12) = 4
            send(1) = 12
            line(0) = 101100000000
            """);
        s = "`index`: the first one, 0 for the one that is taken next";
        edges.add(12, s, "the first and the last bit", """
            send(1) = 8
            cut(0, 1) = 7
            line(0) = 0111000
            cut(6, 1) = 6
            line(0) = 011100
            """);
        edges.add(12, s, "after some were taken", """
            send(1) = 8
            receive(2) = 0
            cut(0, 1) = 5
            line(0) = 11000
            taken() = 2
            """);
        edges.add(12, "`count`: how many, 1 or more", "the least and the most", """
            15 times send(64)
            send(40) = 8000
            cut(7999, 1) = 7999
            cut(0, 7999) = 0
            """);
        s = "Returns how many bits are on the line then.";
        edges.add(12, s, "the end of the line", """
            send(2) = 16
            receive(3) = 0
            cut(8, 5) = 8
            onLine() = 8
            line(0) = 11000000
            """);
    }

    private static void refusedCuts(Edges edges) {
        String s = "Throws `IllegalArgumentException` if count is less than 1";
        edges.add(12, s, "too small", """
            send(1) = 8
            cut(0, 0) = throws.IllegalArgumentException
            cut(0, -1) = throws.IllegalArgumentException
            cut(4, -2) = throws.IllegalArgumentException
            cut(0, MIN) = throws.IllegalArgumentException
            line(0) = 10111000
            onLine() = 8
            """);
        s = "Throws `IndexOutOfBoundsException` if there are no such bits on the line";
        edges.add(12, s, "the line is empty", """
            cut(0, 1) = throws.IndexOutOfBoundsException
            send(1) = 8
            receive(8) = 0
            cut(0, 1) = throws.IndexOutOfBoundsException
            onLine() = 0
            """);
        edges.add(12, s, "the first bit is too small or too large", """
            send(2) = 16
            receive(3) = 0
            cut(-1, 1) = throws.IndexOutOfBoundsException
            cut(-1, 3) = throws.IndexOutOfBoundsException
            cut(13, 1) = throws.IndexOutOfBoundsException
            cut(14, 1) = throws.IndexOutOfBoundsException
            cut(MIN, 1) = throws.IndexOutOfBoundsException
            cut(MAX, 1) = throws.IndexOutOfBoundsException
            line(0) = 1100000000000
            cut(12, 1) = 12
            """);
        edges.add(12, s, "only the last of the bits is not there", """
            send(2) = 16
            receive(3) = 0
            cut(0, 14) = throws.IndexOutOfBoundsException
            cut(12, 2) = throws.IndexOutOfBoundsException
            cut(5, 9) = throws.IndexOutOfBoundsException
            onLine() = 13
            cut(5, 8) = 5
            """);
        edges.add(12, s, "the index and the count are together beyond the ints", """
            send(2) = 16
            cut(1, MAX) = throws.IndexOutOfBoundsException
            cut(15, MAX) = throws.IndexOutOfBoundsException
            cut(MAX, MAX) = throws.IndexOutOfBoundsException
            cut(MIN, MAX) = throws.IndexOutOfBoundsException
            cut(-1, MAX) = throws.IndexOutOfBoundsException
            onLine() = 16
            """);
        edges.add(12, "If several exceptions apply, the one that is documented first is thrown.",
            "no such bits and a count that is less than 1", """
            send(1) = 8
            cut(-1, 0) = throws.IllegalArgumentException
            cut(8, 0) = throws.IllegalArgumentException
            cut(MAX, MIN) = throws.IllegalArgumentException
            onLine() = 8
            """);
        edges.add(12, "A method that throws an exception changes nothing.", "the bits are still received", """
            send(24) = 192
            cut(0, 193) = throws.IndexOutOfBoundsException
            cut(0, 0) = throws.IllegalArgumentException
            receive(192) = 1
            taken() = 192
            """);
    }
}
