/** The cases that the sentences on decoded frames and their samples name: promises 16 to 23. */
final class EdgesOfDecoding {
    private EdgesOfDecoding() {
    }

    static void addTo(Edges edges) {
        counters(edges);
        countersReceived(edges);
        gaps(edges);
        gapsOfPeriods(edges);
        frames(edges);
        lost(edges);
        repeats(edges);
        number(edges);
        value(edges);
        readBits(edges);
        time(edges);
        samples(edges);
        missing(edges);
        noSuchPoint(edges, "value");
        noSuchPoint(edges, "time");
        noSuchPoint(edges, "samples");
        noSuchPoint(edges, "missing");
    }

    private static void counters(Edges edges) {
        String s = "If a frame was decoded before, with the counter j, let d be the remainder of k - j by 256,"
            + " 0 to 255.";
        edges.add(17, s, "the least d, 0", """
            send(32) = 256
            write(200, 00000010)
            receive(256) = 1
            lost() = 0
            repeats() = 1
            number() = 2
            """);
        edges.add(17, s, "d is 1", """
            send(32) = 256
            receive(256) = 2
            lost() = 0
            repeats() = 0
            number() = 3
            """);
        edges.add(17, s, "the greatest d, 255", """
            send(32) = 256
            write(200, 00000001)
            receive(256) = 2
            lost() = 254
            repeats() = 0
            number() = 257
            """);
        edges.add(17, s, "no frame was decoded before", """
            send(24) = 192
            write(136, 11111111)
            receive(192) = 1
            lost() = 0
            repeats() = 0
            number() = 255
            """);
        edges.add(17, s, "a repeat was the frame before", """
            send(40) = 320
            write(200, 00000010)
            write(264, 00000100)
            receive(320) = 2
            lost() = 1
            repeats() = 1
            number() = 4
            """);
        s = "The counter of the first frame is 0, that of each further one is greater by 1, and 0 again behind 255.";
        edges.add(17, s, "255 and then 0", """
            send(40) = 320
            write(136, 11111111)
            write(200, 00000000)
            write(264, 00000001)
            receive(192) = 1
            number() = 255
            receive(64) = 1
            lost() = 0
            repeats() = 0
            number() = 256
            receive(64) = 1
            number() = 257
            """);
        edges.add(17, s, "255 twice", """
            send(32) = 256
            write(136, 11111111)
            write(200, 11111111)
            receive(256) = 1
            lost() = 0
            repeats() = 1
            number() = 255
            """);
        edges.add(17, s, "0 and then 255", """
            send(32) = 256
            write(136, 00000000)
            write(200, 11111111)
            receive(256) = 2
            lost() = 254
            number() = 255
            """);
    }

    private static void countersReceived(Edges edges) {
        String s = "Decoding a frame with the counter k.";
        edges.add(19, s, "the counter that is received counts, not the one that was sent", """
            addPoint(8, 0, 2, false) = 0
            addPoint(8, 0, 4, false) = 1
            send(40) = 320
            write(136, 00001001)
            write(200, 00001110)
            receive(192) = 1
            number() = 9
            samples(0) = 0
            receive(64) = 1
            number() = 14
            lost() = 4
            samples(0) = 1
            time(0) = 912
            missing(0) = 2
            samples(1) = 0
            missing(1) = 1
            """);
    }

    private static void gaps(Edges edges) {
        String s = "Otherwise d - 1 frames are lost: for each of their counters, each point that is sent in such a"
            + " frame has one more missing sample, or two if it is sampled twice.";
        edges.add(23, s, "no frame is lost", """
            addPoint(4, 0, 1, false) = 0
            addPoint(4, 0, 1, true) = 1
            send(32) = 256
            receive(256) = 2
            lost() = 0
            missing(0) = 0
            missing(1) = 0
            """);
        edges.add(23, s, "one frame is lost", """
            addPoint(4, 0, 1, false) = 0
            addPoint(4, 0, 1, true) = 1
            send(40) = 320
            cut(192, 64) = 256
            receive(256) = 2
            lost() = 1
            missing(0) = 1
            missing(1) = 2
            samples(0) = 2
            samples(1) = 4
            """);
        edges.add(23, s, "the most frames are lost", """
            addPoint(4, 0, 1, false) = 0
            addPoint(4, 0, 1, true) = 1
            addPoint(4, 0, 2, false) = 2
            addPoint(4, 0, 4, false) = 3
            send(40) = 320
            write(200, 00000011)
            write(264, 00000010)
            receive(320) = 3
            lost() = 254
            missing(0) = 254
            missing(1) = 508
            missing(2) = 127
            missing(3) = 64
            """);
        edges.add(23, s, "the lost frames have the counters 255 and 0", """
            3 times addPoint(12, 0, 1, false)
            addPoint(11, 0, 1, false) = 3
            4 times addPoint(1, 0, 4, false)
            place(4) = 47
            place(7) = 347
            send(32) = 256
            write(136, 11111110)
            write(200, 00000001)
            receive(256) = 2
            lost() = 2
            number() = 257
            missing(0) = 2
            missing(4) = 1
            missing(5) = 0
            missing(6) = 0
            missing(7) = 1
            """);
    }

    private static void gapsOfPeriods(Edges edges) {
        String s = "each point that is sent in such a frame has one more missing sample";
        String points = """
            3 times addPoint(12, 0, 1, false)
            addPoint(11, 0, 1, false) = 3
            4 times addPoint(1, 0, 4, false)
            """;
        edges.add(23, s, "each phase of the period 4 has a frame of its own", points + """
            send(64) = 512
            cut(192, 64) = 448
            receive(448) = 5
            lost() = 1
            missing(0) = 1
            missing(4) = 0
            missing(5) = 0
            missing(6) = 0
            missing(7) = 1
            """);
        edges.add(23, s, "neither the frame before the gap nor the one behind it is missing", points + """
            send(64) = 512
            cut(192, 192) = 320
            receive(320) = 3
            lost() = 3
            missing(4) = 1
            missing(5) = 1
            missing(6) = 0
            missing(7) = 1
            samples(6) = 2
            samples(7) = 1
            """);
        edges.add(23, "Each sample has its place and its time, or it is named missing.",
            "samples and missing samples are the frames from the first to the last", """
            addPoint(4, 0, 1, false) = 0
            addPoint(4, 0, 2, false) = 1
            send(64) = 512
            cut(192, 128) = 384
            receive(384) = 4
            samples(0) = 4
            missing(0) = 2
            samples(1) = 2
            missing(1) = 1
            number() = 7
            """);
    }

    private static void frames(Edges edges) {
        String s = "Returns how many frames were decoded and used.";
        edges.add(16, s, "none yet, and the first", """
            frames() = 0
            send(24) = 192
            receive(191) = 0
            frames() = 0
            receive(1) = 1
            frames() = 1
            """);
        edges.add(16, s, "the most", """
            15 times send(64)
            send(40) = 8000
            receive(4096) = 62
            receive(4096) = 61
            frames() = 123
            """);
        edges.add(16, s, "neither repeats nor lost frames count", """
            send(40) = 320
            write(200, 00000010)
            write(264, 00001000)
            receive(320) = 2
            frames() = 2
            repeats() = 1
            lost() = 5
            """);
    }

    private static void lost(Edges edges) {
        String s = "Returns how many frames were lost.";
        edges.add(17, s, "those before the first that is decoded were not lost", """
            lost() = 0
            send(32) = 256
            receive(4096) = 2
            number() = 3
            lost() = 0
            """);
        edges.add(17, s, "of several gaps together", """
            send(64) = 512
            write(200, 00000100)
            write(264, 00000110)
            write(328, 00000101)
            receive(384) = 4
            lost() = 256
            """);
        edges.add(17, s, "while the lock was lost", """
            2 times send(64)
            write(192, 00000000)
            write(256, 00000000)
            receive(448) = 2
            lost() = 0
            receive(576) = 9
            lost() = 3
            number() = 15
            """);
    }

    private static void repeats(Edges edges) {
        edges.add(18, "Returns how many frames were repeats.", "none, and the first", """
            repeats() = 0
            send(32) = 256
            write(200, 00000010)
            receive(255) = 1
            repeats() = 0
            receive(1) = 0
            repeats() = 1
            """);
        edges.add(18, "Returns how many frames were repeats.", "the first frame is none, whatever its counter is", """
            send(24) = 192
            write(136, 00000000)
            receive(192) = 1
            repeats() = 0
            number() = 0
            """);
        edges.add(18, "If d is 0, the frame is a repeat and is not used.", "its samples are not taken", """
            addPoint(8, 0, 1, false) = 0
            put(0, 5) = 0
            send(24) = 192
            put(0, 6) = 5
            send(8) = 256
            write(200, 00000010)
            receive(256) = 1
            frames() = 1
            number() = 2
            value(0) = 5
            time(0) = 144
            samples(0) = 1
            missing(0) = 0
            """);
        edges.add(18, "If d is 0, the frame is a repeat and is not used.", "again and again", """
            send(48) = 384
            write(200, 00000010)
            write(264, 00000010)
            write(328, 00000010)
            receive(384) = 1
            repeats() = 3
            lost() = 0
            """);
    }

    private static void number(Edges edges) {
        edges.add(19, "Throws `NoSuchElementException` if there was none", "all bits of the first frame but one", """
            number() = throws.NoSuchElementException
            send(24) = 192
            receive(191) = 0
            number() = throws.NoSuchElementException
            receive(1) = 1
            number() = 2
            """);
        String s = "The number of the frame is its counter if it is the first one that is decoded,"
            + " otherwise the number of the one before plus d.";
        edges.add(19, s, "the least and the greatest counter of the first one", """
            send(24) = 192
            write(136, 00000000)
            receive(192) = 1
            number() = 0
            """);
        edges.add(19, s, "the greatest counter of the first one", """
            send(24) = 192
            write(136, 11111111)
            receive(192) = 1
            number() = 255
            """);
        edges.add(19, s, "it goes on behind 255", """
            send(40) = 320
            write(136, 11111111)
            write(200, 11111110)
            write(264, 11111101)
            receive(192) = 1
            number() = 255
            receive(64) = 1
            number() = 510
            receive(64) = 1
            number() = 765
            """);
        edges.add(19, "Returns the number of the frame that was decoded and used last.", "a repeat is not used", """
            send(40) = 320
            write(264, 00000011)
            receive(256) = 2
            number() = 3
            receive(64) = 0
            number() = 3
            """);
        edges.add(19, "Returns its number.", "the last frame that can be sent", """
            15 times send(64)
            send(40) = 8000
            receive(4096) = 62
            receive(4096) = 61
            number() = 124
            """);
    }

    private static void value(Edges edges) {
        edges.add(20, "Returns the value of a point.", "what was put later is not received yet", """
            addPoint(8, 0, 1, false) = 0
            put(0, 255) = 0
            send(24) = 192
            put(0, 1) = 255
            receive(192) = 1
            value(0) = 255
            """);
        edges.add(20, "`point`: its number", "the first and the last", """
            12 times addPoint(4, 0, 1, false)
            put(0, 15) = 0
            put(11, 9) = 0
            send(24) = 192
            receive(192) = 1
            value(0) = 15
            value(11) = 9
            value(10) = 0
            """);
        edges.add(20, "Returns its value.", "no new one while no frame is used", """
            addPoint(8, 0, 1, false) = 0
            put(0, 7) = 0
            send(24) = 192
            put(0, 8) = 7
            send(8) = 256
            receive(255) = 1
            value(0) = 7
            receive(1) = 1
            value(0) = 8
            """);
        edges.add(20, "Throws `NoSuchElementException` if it has no sample", "no frame was decoded", """
            addPoint(8, 0, 1, false) = 0
            value(0) = throws.NoSuchElementException
            send(24) = 192
            receive(191) = 0
            value(0) = throws.NoSuchElementException
            receive(1) = 1
            value(0) = 0
            """);
        edges.add(20, "Throws `NoSuchElementException` if it has no sample", "no frame that is sent with it", """
            addPoint(8, 0, 1, false) = 0
            addPoint(8, 0, 4, false) = 1
            send(40) = 320
            receive(256) = 2
            value(1) = throws.NoSuchElementException
            value(0) = 0
            receive(64) = 1
            value(1) = 0
            """);
        String s = "The value and the time of a point are those of its latest sample.";
        edges.add(20, s, "of a frame that is used after others were lost", """
            addPoint(8, 0, 2, false) = 0
            put(0, 7) = 0
            send(24) = 192
            put(0, 8) = 7
            send(24) = 384
            put(0, 9) = 8
            cut(256, 64) = 320
            receive(320) = 3
            value(0) = 7
            time(0) = 144
            missing(0) = 1
            """);
        edges.add(20, "Then each point that is sent in this frame gets its samples, in the order of their bits.",
            "the second of two samples is the latest", """
            addPoint(4, 0, 1, true) = 0
            send(16) = 128
            put(0, 9) = 0
            send(5) = 168
            put(0, 6) = 9
            send(3) = 192
            receive(192) = 1
            value(0) = 6
            time(0) = 168
            samples(0) = 2
            """);
    }

    private static void readBits(Edges edges) {
        String s = "When bits are read, a sign and magnitude of 1 and only zeros behind it is 0.";
        readBits(edges, s, 2, 2, "10", 0);
        readBits(edges, s, 2, 12, "100000000000", 0);
        readBits(edges, "the highest bit is 1 for values below 0, and the others are the absolute value",
            2, 12, "100000000001", -1);
        readBits(edges, "the highest bit is 1 for values below 0, and the others are the absolute value",
            2, 12, "111111111111", -2047);
        readBits(edges, "0, unsigned: v from 0 to 2^b - 1, as a binary number", 0, 1, "1", 1);
        readBits(edges, "0, unsigned: v from 0 to 2^b - 1, as a binary number", 0, 12, "111111111111", 4095);
        readBits(edges, "where 2^b is added to values below 0", 1, 2, "10", -2);
        readBits(edges, "where 2^b is added to values below 0", 1, 12, "100000000000", -2048);
        readBits(edges, "where 2^b is added to values below 0", 1, 12, "111111111111", -1);
        readBits(edges, "where 2^b is added to values below 0", 1, 12, "011111111111", 2047);
        readBits(edges, "and 2^(b-1) is added", 3, 2, "00", -2);
        readBits(edges, "and 2^(b-1) is added", 3, 12, "000000000000", -2048);
        readBits(edges, "and 2^(b-1) is added", 3, 12, "100000000000", 0);
        readBits(edges, "and 2^(b-1) is added", 3, 12, "111111111111", 2047);
    }

    /** The bits of a point that is the last one of the frame, damaged on the line. */
    private static void readBits(Edges edges, String sentence, int convention, int width, String bits, int value) {
        int others = 48 - width;
        StringBuilder script = new StringBuilder();
        for (int left = others; left > 0; left -= 12) {
            script.append("addPoint(").append(Math.min(left, 12)).append(", 0, 1, false)\n");
        }
        int point = (others + 11) / 12;
        script.append("addPoint(").append(width).append(", ").append(convention).append(", 1, false) = ");
        script.append(point).append("\nsend(24) = 192\nwrite(").append(192 - width).append(", ").append(bits);
        script.append(")\nreceive(192) = 1\nvalue(").append(point).append(") = ").append(value);
        script.append("\nvalue(").append(point - 1).append(") = 0\n");
        edges.add(20, sentence, bits + " is read", script.toString());
    }

    private static void time(Edges edges) {
        edges.add(21, "Returns the time of a point.", "of the latest of several samples", """
            addPoint(8, 0, 1, false) = 0
            send(32) = 256
            receive(192) = 1
            time(0) = 144
            receive(64) = 1
            time(0) = 208
            """);
        edges.add(21, "`point`: its number", "the first and the last", """
            12 times addPoint(4, 0, 1, false)
            send(24) = 192
            receive(192) = 1
            time(0) = 144
            time(11) = 188
            """);
        edges.add(21, "Returns its time.", "of the second of two samples in a frame", """
            addPoint(12, 0, 1, true) = 0
            addPoint(12, 0, 1, true) = 1
            send(24) = 192
            receive(192) = 1
            time(0) = 168
            time(1) = 180
            """);
        String s = "The time of a sample is 64 times the number of its frame plus the number of its first bit in the"
            + " frame.";
        edges.add(21, s, "the least", """
            addPoint(8, 0, 1, false) = 0
            send(24) = 192
            write(136, 00000000)
            receive(192) = 1
            time(0) = 16
            """);
        edges.add(21, s, "the last bit of a frame", """
            3 times addPoint(12, 0, 1, false)
            addPoint(11, 0, 1, false) = 3
            addPoint(1, 0, 1, false) = 4
            send(24) = 192
            receive(192) = 1
            time(4) = 191
            """);
        edges.add(21, s, "the number of a frame that is greater than 255", """
            addPoint(8, 0, 1, false) = 0
            send(32) = 256
            write(136, 11111111)
            write(200, 00000000)
            receive(256) = 2
            number() = 256
            time(0) = 16400
            """);
        edges.add(21, "Throws `NoSuchElementException` if it has no sample", "no frame was decoded", """
            addPoint(8, 0, 1, false) = 0
            time(0) = throws.NoSuchElementException
            send(24) = 192
            receive(191) = 0
            time(0) = throws.NoSuchElementException
            receive(1) = 1
            time(0) = 144
            """);
        edges.add(21, "Throws `NoSuchElementException` if it has no sample", "no frame that is sent with it", """
            addPoint(8, 0, 1, false) = 0
            addPoint(8, 0, 4, false) = 1
            send(40) = 320
            receive(256) = 2
            time(1) = throws.NoSuchElementException
            receive(64) = 1
            time(1) = 280
            """);
    }

    private static void samples(Edges edges) {
        edges.add(22, "Returns how many samples a point got.", "none, and the first", """
            addPoint(8, 0, 1, false) = 0
            addPoint(8, 0, 1, true) = 1
            samples(0) = 0
            send(24) = 192
            receive(191) = 0
            samples(0) = 0
            samples(1) = 0
            receive(1) = 1
            samples(0) = 1
            samples(1) = 2
            """);
        edges.add(22, "`point`: its number", "the first and the last", """
            12 times addPoint(4, 0, 4, false)
            place(0) = 0
            place(11) = 44
            send(40) = 320
            receive(256) = 2
            samples(0) = 0
            samples(11) = 0
            receive(64) = 1
            samples(0) = 1
            samples(11) = 1
            """);
        edges.add(22, "Returns the number of samples.", "the most", """
            addPoint(4, 0, 1, true) = 0
            addPoint(4, 0, 1, false) = 1
            addPoint(4, 0, 2, false) = 2
            addPoint(4, 0, 4, false) = 3
            15 times send(64)
            send(40) = 8000
            receive(4096) = 62
            receive(4096) = 61
            samples(0) = 246
            samples(1) = 123
            samples(2) = 62
            samples(3) = 31
            """);
        edges.add(22, "Returns the number of samples.", "neither repeats nor lost frames have any", """
            addPoint(4, 0, 1, false) = 0
            send(40) = 320
            write(200, 00000010)
            write(264, 00001000)
            receive(320) = 2
            samples(0) = 2
            missing(0) = 5
            """);
    }

    private static void missing(Edges edges) {
        edges.add(23, "Returns how many missing samples a point has.", "none, and the first", """
            addPoint(4, 0, 1, false) = 0
            missing(0) = 0
            send(32) = 256
            write(200, 00000100)
            receive(255) = 1
            missing(0) = 0
            receive(1) = 1
            missing(0) = 1
            """);
        edges.add(23, "`point`: its number", "the first and the last", """
            3 times addPoint(12, 0, 1, false)
            5 times addPoint(1, 0, 4, false)
            4 times addPoint(1, 0, 2, false)
            send(40) = 320
            cut(192, 64) = 256
            receive(256) = 2
            missing(0) = 1
            missing(11) = 0
            """);
        edges.add(23, "Returns the number of samples.", "those before the first frame are not missing", """
            addPoint(4, 0, 1, false) = 0
            send(24) = 192
            write(136, 11111111)
            receive(192) = 1
            missing(0) = 0
            samples(0) = 1
            """);
    }

    private static void noSuchPoint(Edges edges, String call) {
        int promise = call.equals("value") ? 20 : call.equals("time") ? 21 : call.equals("samples") ? 22 : 23;
        String s = "Throws `IndexOutOfBoundsException` if there is no such point";
        edges.add(promise, s, "no point yet", call + "(0) = throws.IndexOutOfBoundsException\n"
            + call + "(-1) = throws.IndexOutOfBoundsException\n"
            + "addPoint(4, 0, 1, false) = 0\n");
        String received = """
            addPoint(4, 0, 1, false) = 0
            send(24) = 192
            receive(192) = 1
            """;
        edges.add(promise, s, "too small and too large", received
            + call + "(-1) = throws.IndexOutOfBoundsException\n"
            + call + "(1) = throws.IndexOutOfBoundsException\n"
            + call + "(12) = throws.IndexOutOfBoundsException\n"
            + call + "(100) = throws.IndexOutOfBoundsException\n"
            + call + "(MIN) = throws.IndexOutOfBoundsException\n"
            + call + "(MAX) = throws.IndexOutOfBoundsException\n"
            + "samples(0) = 1\n");
        edges.add(promise, s, "with twelve points", "12 times addPoint(1, 0, 1, false)\n"
            + call + "(12) = throws.IndexOutOfBoundsException\n"
            + "samples(11) = 0\n");
        if (promise < 22) {
            edges.add(promise, "If several exceptions apply, the one that is documented first is thrown.",
                "no such point, and no sample of any", "addPoint(4, 0, 1, false) = 0\n"
                + call + "(1) = throws.IndexOutOfBoundsException\n"
                + call + "(0) = throws.NoSuchElementException\n");
        }
    }
}
