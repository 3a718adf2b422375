/** The cases that the sentences on the receiver's search, check and lock name: promises 13 to 15. */
final class EdgesOfTheReceiver {
    private EdgesOfTheReceiver() {
    }

    static void addTo(Edges edges) {
        receive(edges);
        refusedReceive(edges);
        search(edges);
        check(edges);
        lock(edges);
        misses(edges);
        backToSearch(edges);
        state(edges);
        taken(edges);
    }

    private static void receive(Edges edges) {
        edges.add(13, "Lets the receiver take bits from the line.", "the first one", """
            send(1) = 8
            receive(1) = 0
            taken() = 1
            onLine() = 7
            """);
        String s = "`bits`: how many, 1 to 4096; if there are fewer, it takes all";
        edges.add(13, s, "the least and the greatest", """
            9 times send(64)
            receive(4096) = 62
            taken() = 4096
            onLine() = 512
            receive(1) = 0
            taken() = 4097
            onLine() = 511
            """);
        edges.add(13, s, "just as many as there are, and one more", """
            send(2) = 16
            receive(8) = 0
            onLine() = 8
            receive(9) = 0
            taken() = 16
            onLine() = 0
            """);
        edges.add(13, s, "there are none", """
            receive(1) = 0
            receive(4096) = 0
            taken() = 0
            send(1) = 8
            receive(4096) = 0
            taken() = 8
            """);
        s = "Returns how many frames are decoded and used by that.";
        edges.add(13, s, "all bits of a frame but the last, and the last", """
            send(64) = 512
            receive(191) = 0
            receive(1) = 1
            receive(63) = 0
            receive(1) = 1
            receive(192) = 3
            """);
        edges.add(13, s, "repeats do not count", """
            send(32) = 256
            write(200, 00000010)
            receive(192) = 1
            receive(64) = 0
            repeats() = 1
            """);
        edges.add(13, s, "the most in one call", """
            8 times send(64)
            receive(4096) = 62
            8 times send(61)
            receive(3904) = 61
            """);
        edges.add(13, "The receiver takes the bits of the line one by one, in order.", "one by one as all together", """
            addPoint(8, 0, 1, false) = 0
            put(0, 129) = 0
            send(24) = 192
            191 times receive(1) = 0
            receive(1) = 1
            value(0) = 129
            """);
    }

    private static void refusedReceive(Edges edges) {
        edges.add(13, "Throws `IllegalArgumentException` if bits is out of range", "too small and too large", """
            send(32) = 256
            receive(191) = 0
            receive(0) = throws.IllegalArgumentException
            receive(-1) = throws.IllegalArgumentException
            receive(4097) = throws.IllegalArgumentException
            receive(MIN) = throws.IllegalArgumentException
            receive(MAX) = throws.IllegalArgumentException
            taken() = 191
            frames() = 0
            receive(1) = 1
            """);
        edges.add(13, "Throws `IllegalArgumentException` if bits is out of range", "with nothing on the line", """
            receive(0) = throws.IllegalArgumentException
            receive(4097) = throws.IllegalArgumentException
            taken() = 0
            """);
    }

    private static void search(Edges edges) {
        edges.add(14, "It is in the state 0 (search) at first.", "until the sync word is whole", """
            state() = 0
            send(8) = 64
            state() = 0
            receive(7) = 0
            state() = 0
            receive(1) = 0
            state() = 1
            """);
        String s = "In search, when the latest 8 bits that were taken (in whatever state) are the sync word, it goes to"
            + " 1 (check) with one match, and a frame has begun with these 8 bits.";
        edges.add(13, s, "only seven bits of it are there", """
            send(1) = 8
            cut(0, 1) = 7
            receive(7) = 0
            state() = 0
            """);
        for (int bit = 0; bit < 8; bit++) {
            edges.add(13, s, "its bit " + bit + " is wrong", "send(8) = 64\n"
                + "flip(" + bit + ")\n"
                + "receive(64) = 0\n"
                + "state() = 0\n");
        }
        edges.add(13, s, "it lies behind a single bit", """
            send(16) = 128
            cut(0, 63) = 65
            receive(8) = 0
            state() = 0
            receive(1) = 0
            state() = 1
            """);
        edges.add(13, s, "its halves come from two frames", """
            send(16) = 128
            cut(4, 64) = 64
            receive(7) = 0
            state() = 0
            receive(1) = 0
            state() = 1
            """);
        edges.add(13, s, "it is made of the bits of a point", """
            addPoint(8, 0, 1, false) = 0
            put(0, 184) = 0
            send(24) = 192
            cut(0, 16) = 176
            receive(8) = 0
            state() = 1
            receive(64) = 0
            state() = 1
            receive(64) = 0
            state() = 2
            """);
        edges.add(13, s, "the frame begins with it, not behind it", """
            send(32) = 256
            cut(0, 40) = 216
            receive(24) = 0
            state() = 0
            receive(8) = 0
            state() = 1
            receive(64) = 0
            state() = 1
            receive(63) = 0
            state() = 1
            receive(1) = 0
            state() = 2
            """);
    }

    private static void check(Edges edges) {
        String s = "The next 8 bits begin the next frame; when they have been taken, they are compared with the sync"
            + " word.";
        edges.add(13, s, "seven of them, and the eighth", """
            send(16) = 128
            flip(64) = 0
            receive(71) = 0
            state() = 1
            receive(1) = 0
            state() = 0
            """);
        s = "In check: if they are the sync word, there is one more match, and with 3 matches the state becomes lock;"
            + " otherwise the state becomes search.";
        edges.add(13, s, "two matches, and three", """
            send(24) = 192
            receive(72) = 0
            state() = 1
            receive(63) = 0
            state() = 1
            receive(1) = 0
            state() = 2
            """);
        for (int bit = 0; bit < 8; bit++) {
            edges.add(13, s, "the bit " + bit + " of the second sync word is wrong", "send(16) = 128\n"
                + "flip(" + (64 + bit) + ")\n"
                + "receive(71) = 0\n"
                + "state() = 1\n"
                + "receive(57) = 0\n"
                + "state() = 0\n");
        }
        edges.add(13, s, "one bit of the third sync word is wrong", """
            send(64) = 512
            flip(135) = 1
            receive(135) = 0
            state() = 1
            receive(1) = 0
            state() = 0
            receive(376) = 3
            state() = 2
            number() = 7
            """);
        edges.add(13, s, "the matches begin anew", """
            send(64) = 512
            flip(128) = 0
            receive(200) = 0
            state() = 1
            receive(64) = 0
            state() = 1
            receive(64) = 0
            state() = 2
            """);
        s = "(If the state becomes lock, the frame that begins is decoded when it is complete.)";
        edges.add(13, s, "the frame of the third match, and none before", """
            send(24) = 192
            receive(136) = 0
            state() = 2
            frames() = 0
            receive(55) = 0
            frames() = 0
            receive(1) = 1
            number() = 2
            """);
        s = "In check and in lock, when 64 bits of a frame have been taken, the frame is complete;"
            + " if the state was 2 (lock) when it began, it is decoded.";
        edges.add(13, s, "frames that began in check", """
            send(16) = 128
            receive(128) = 0
            frames() = 0
            lost() = 0
            number() = throws.NoSuchElementException
            """);
        edges.add(13, s, "a frame whose last bit is missing", """
            send(32) = 256
            cut(255, 1) = 255
            receive(4096) = 1
            number() = 2
            taken() = 255
            """);
    }

    private static void lock(Edges edges) {
        String s = "In lock: if they differ from it in at most one bit, there are 0 misses, otherwise one more miss"
            + " (none at first), and with 2 misses the state becomes search.";
        for (int bit = 0; bit < 8; bit++) {
            edges.add(13, s, "one bit, " + bit + ", differs again and again", "send(64) = 512\n"
                + "flip(" + (192 + bit) + ")\n"
                + "flip(" + (256 + bit) + ")\n"
                + "flip(" + (320 + bit) + ")\n"
                + "receive(512) = 6\n"
                + "state() = 2\n");
        }
        edges.add(13, s, "two bits differ once", """
            send(64) = 512
            flip(192) = 0
            flip(199) = 1
            receive(200) = 1
            state() = 2
            receive(56) = 1
            receive(256) = 4
            state() = 2
            """);
        edges.add(13, s, "all bits differ once", """
            send(64) = 512
            write(192, 01000111)
            receive(512) = 6
            state() = 2
            """);
        edges.add(13, s, "two bits differ twice", """
            send(64) = 512
            flip(192) = 0
            flip(193) = 1
            flip(262) = 1
            flip(263) = 1
            receive(263) = 2
            state() = 2
            receive(1) = 0
            state() = 0
            """);
        edges.add(13, s, "none at first: a new lock after one that ended with two misses, with one miss", """
            2 times send(64)
            write(192, 00000000)
            write(256, 00000000)
            write(512, 00000000)
            receive(264) = 2
            state() = 0
            receive(192) = 0
            state() = 2
            receive(64) = 1
            state() = 2
            receive(504) = 8
            state() = 2
            """);
        edges.add(13, s, "none at first: a new lock after one that ended with two misses, with two misses", """
            2 times send(64)
            write(192, 00000000)
            write(256, 00000000)
            write(512, 00000000)
            write(576, 00000000)
            receive(264) = 2
            state() = 0
            receive(319) = 2
            state() = 2
            receive(1) = 0
            state() = 0
            """);
    }

    private static void misses(Edges edges) {
        String s = "In lock: if they differ from it in at most one bit, there are 0 misses, otherwise one more miss"
            + " (none at first), and with 2 misses the state becomes search.";
        edges.add(13, s, "a whole sync word between two misses", """
            send(64) = 512
            write(192, 00000000)
            write(320, 00000000)
            receive(512) = 6
            state() = 2
            """);
        edges.add(13, s, "a sync word with one wrong bit between two misses", """
            send(64) = 512
            write(192, 00000000)
            flip(256) = 0
            write(320, 00000000)
            receive(512) = 6
            state() = 2
            """);
        edges.add(13, s, "two misses behind one that was forgotten", """
            send(64) = 512
            write(192, 00000000)
            write(320, 00000000)
            write(384, 00000000)
            receive(391) = 4
            state() = 2
            receive(1) = 0
            state() = 0
            """);
    }

    private static void backToSearch(Edges edges) {
        String s = "If the state becomes search, no frame has begun, and these 8 bits are not looked at in search any"
            + " more, but count among the latest 8 bits for those that follow.";
        edges.add(13, s, "no frame has begun when a lock ends", """
            send(64) = 512
            write(192, 00000000)
            write(256, 00000000)
            receive(264) = 2
            receive(56) = 0
            frames() = 2
            receive(8) = 0
            state() = 1
            """);
        edges.add(13, s, "a sync word that ends within them is not found", """
            send(24) = 192
            cut(20, 4) = 188
            receive(68) = 0
            state() = 1
            receive(4) = 0
            state() = 0
            receive(59) = 0
            state() = 0
            receive(1) = 0
            state() = 1
            """);
        edges.add(13, s, "the last four of them begin a sync word, in check", """
            send(16) = 128
            write(64, 00001011)
            write(72, 10000000)
            receive(72) = 0
            state() = 0
            receive(3) = 0
            state() = 0
            receive(1) = 0
            state() = 1
            """);
        edges.add(13, s, "all but the first of them begin a sync word, in check", """
            send(16) = 128
            write(64, 01011100)
            receive(72) = 0
            state() = 0
            receive(1) = 0
            state() = 1
            """);
        edges.add(13, s, "all but the first of them begin a sync word, in lock", """
            send(64) = 512
            write(192, 00000000)
            write(256, 01011100)
            receive(264) = 2
            state() = 0
            receive(1) = 0
            state() = 1
            """);
        edges.add(13, s, "the last of them begins a sync word, in lock", """
            send(64) = 512
            write(192, 00000000)
            write(256, 0000000101110000)
            receive(270) = 2
            state() = 0
            receive(1) = 0
            state() = 1
            """);
    }

    private static void state(Edges edges) {
        String s = "Returns the state: 0 search, 1 check, 2 lock.";
        edges.add(14, s, "each of them", """
            send(40) = 320
            write(192, 00000000)
            write(256, 00000000)
            state() = 0
            receive(8) = 0
            state() = 1
            receive(128) = 0
            state() = 2
            receive(128) = 2
            state() = 0
            """);
        edges.add(14, s, "neither the sender nor the line changes it", """
            send(8) = 64
            receive(8) = 0
            send(8) = 120
            cut(0, 120) = 0
            state() = 1
            """);
    }

    private static void taken(Edges edges) {
        String s = "Returns how many bits were taken.";
        edges.add(15, s, "none yet", """
            taken() = 0
            send(1) = 8
            taken() = 0
            """);
        edges.add(15, s, "the most", """
            15 times send(64)
            send(40) = 8000
            receive(4096) = 62
            receive(4096) = 61
            taken() = 8000
            receive(1) = 0
            taken() = 8000
            """);
        edges.add(15, s, "bits that were cut out were not taken", """
            send(2) = 16
            receive(5) = 0
            cut(0, 10) = 1
            taken() = 5
            receive(4096) = 0
            taken() = 6
            """);
    }
}
