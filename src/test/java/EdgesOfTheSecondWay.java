/** The cases that the sentences on the second way name: promises 27 and 28. */
final class EdgesOfTheSecondWay {
    private EdgesOfTheSecondWay() {
    }

    static void addTo(Edges edges) {
        matches(edges);
        refusedMatches(edges);
        bestOffset(edges);
    }

    private static void matches(Edges edges) {
        String s = "how many of the numbers offset, offset + 64, offset + 128 and so on are such that the bit with this"
            + " number, counted from 0 over all bits that were taken, and the next 7 bits are the sync word.";
        edges.add(27, s, "no bit was taken", """
            matches(0) = 0
            send(8) = 64
            matches(0) = 0
            matches(63) = 0
            """);
        edges.add(27, s, "the last of the 8 bits is missing, and is there", """
            send(16) = 128
            receive(7) = 0
            matches(0) = 0
            receive(1) = 0
            matches(0) = 1
            receive(63) = 0
            matches(0) = 1
            receive(1) = 0
            matches(0) = 2
            """);
        edges.add(27, s, "one of the 8 bits is wrong", """
            send(32) = 256
            flip(0) = 0
            flip(71) = 1
            receive(256) = 0
            matches(0) = 2
            """);
        edges.add(27, s, "bits that were cut out have no number", """
            send(16) = 128
            receive(4) = 0
            cut(0, 64) = 60
            receive(60) = 0
            matches(0) = 1
            matches(4) = 0
            """);
        edges.add(27, s, "the greatest number of them", """
            15 times send(64)
            send(40) = 8000
            receive(4096) = 62
            matches(0) = 64
            receive(4096) = 61
            matches(0) = 125
            """);
        edges.add(27, s, "it goes over the end of a frame", """
            addPoint(8, 0, 1, false) = 0
            put(0, 184) = 0
            send(24) = 192
            cut(0, 17) = 175
            receive(4096) = 0
            matches(63) = 2
            matches(47) = 2
            """);
        s = "Counts the sync words in all bits that were taken, cut into frames at an offset";
        edges.add(27, s, "whatever the state was", """
            send(24) = 192
            write(68, 10111000)
            receive(192) = 0
            state() = 0
            matches(0) = 2
            matches(4) = 1
            """);
        edges.add(27, "`offset`: 0 to 63", "the least and the greatest", """
            send(24) = 192
            receive(192) = 1
            matches(0) = 3
            matches(1) = 0
            matches(62) = 0
            matches(63) = 0
            """);
        edges.add(27, "`offset`: 0 to 63", "sync words at the greatest", """
            send(24) = 192
            cut(0, 1) = 191
            receive(191) = 0
            matches(63) = 2
            matches(0) = 0
            """);
        edges.add(27, "Returns the number of sync words.", "words that were not taken do not count", """
            send(24) = 192
            receive(70) = 0
            matches(0) = 1
            """);
    }

    private static void refusedMatches(Edges edges) {
        edges.add(27, "Throws `IllegalArgumentException` if offset is out of range", "too small and too large", """
            send(24) = 192
            receive(192) = 1
            matches(-1) = throws.IllegalArgumentException
            matches(64) = throws.IllegalArgumentException
            matches(128) = throws.IllegalArgumentException
            matches(MIN) = throws.IllegalArgumentException
            matches(MAX) = throws.IllegalArgumentException
            matches(0) = 3
            """);
        edges.add(27, "Throws `IllegalArgumentException` if offset is out of range", "no bit was taken", """
            matches(-1) = throws.IllegalArgumentException
            matches(64) = throws.IllegalArgumentException
            matches(63) = 0
            """);
    }

    private static void bestOffset(Edges edges) {
        String s = "Finds the offset with the most sync words, as counted by matches, of several the lowest one.";
        edges.add(28, s, "no bit was taken", """
            bestOffset() = 0
            send(8) = 64
            bestOffset() = 0
            """);
        edges.add(28, s, "no sync word was taken", """
            send(8) = 64
            flip(0) = 0
            receive(64) = 0
            bestOffset() = 0
            """);
        edges.add(28, s, "two have as many, the lowest is 0", """
            addPoint(8, 0, 1, false) = 0
            put(0, 184) = 0
            send(16) = 128
            receive(128) = 0
            matches(0) = 2
            matches(16) = 2
            bestOffset() = 0
            """);
        edges.add(28, s, "the higher one has one more", """
            addPoint(8, 0, 1, false) = 0
            put(0, 184) = 0
            send(16) = 128
            flip(64) = 0
            receive(128) = 0
            matches(0) = 1
            matches(16) = 2
            bestOffset() = 16
            """);
        edges.add(28, s, "two have as many, neither is 0", """
            addPoint(8, 0, 1, false) = 0
            put(0, 184) = 0
            send(16) = 128
            cut(0, 8) = 120
            receive(120) = 0
            matches(8) = 2
            matches(56) = 1
            bestOffset() = 8
            flip(0) = throws.IndexOutOfBoundsException
            send(1) = 8
            receive(8) = 0
            matches(56) = 2
            bestOffset() = 8
            """);
        edges.add(28, "Returns the offset, 0 to 63.", "the least", """
            send(1) = 8
            receive(8) = 0
            bestOffset() = 0
            """);
        edges.add(28, "Returns the offset, 0 to 63.", "the least but one", """
            send(16) = 128
            cut(0, 63) = 65
            receive(65) = 0
            matches(1) = 1
            bestOffset() = 1
            """);
        edges.add(28, "Returns the offset, 0 to 63.", "the greatest", """
            send(16) = 128
            cut(0, 1) = 127
            receive(70) = 0
            bestOffset() = 0
            receive(1) = 0
            bestOffset() = 63
            """);
    }
}
