/** The cases that the sentences on derived points name: promises 24 to 26. */
final class EdgesOfDerivedPoints {
    private EdgesOfDerivedPoints() {
    }

    static void addTo(Edges edges) {
        derive(edges);
        operands(edges);
        loops(edges);
        allowedChains(edges);
        operations(edges);
        limits(edges);
        asked(edges);
        nothingThere(edges);
        times(edges);
    }

    /** Three points of 12 bits in two's complement with these values, received in the frame 2. */
    private static String received(int a, int b, int c) {
        return "3 times addPoint(12, 1, 1, false)\n"
            + "put(0, " + a + ") = 0\n"
            + "put(1, " + b + ") = 0\n"
            + "put(2, " + c + ") = 0\n"
            + "send(24) = 192\n"
            + "receive(192) = 1\n";
    }

    private static void derive(Edges edges) {
        edges.add(24, "Sets a derived point, in place of what it may have been.", "set again", received(5, 7, 0) + """
            derive(0, 0, 0, 1) = done
            derivedValue(0) = 12
            derive(0, 2, 1, 1) = done
            derivedValue(0) = 49
            """);
        edges.add(24, "`derived`: 0 to 7", "the least and the greatest", received(5, 7, 0) + """
            derive(0, 0, 0, 1) = done
            derive(7, 1, 0, 1) = done
            derivedValue(0) = 12
            derivedValue(7) = -2
            """);
        edges.add(24, "Derived points are numbered 0 to 7.", "too small and too large", received(5, 7, 0) + """
            derive(-1, 0, 0, 1) = throws.IllegalArgumentException
            derive(8, 0, 0, 1) = throws.IllegalArgumentException
            derive(100, 0, 0, 1) = throws.IllegalArgumentException
            derive(MIN, 0, 0, 1) = throws.IllegalArgumentException
            derive(MAX, 0, 0, 1) = throws.IllegalArgumentException
            derivedValue(0) = throws.NoSuchElementException
            derivedValue(7) = throws.NoSuchElementException
            """);
        edges.add(24, "`operation`: 0 to 4", "the least and the greatest", received(5, 7, 0) + """
            derive(0, 0, 0, 1) = done
            derivedValue(0) = 12
            derive(0, 4, 0, 1) = done
            derivedValue(0) = 5
            """);
        edges.add(24, "`operation`: 0 to 4", "too small and too large", received(5, 7, 0) + """
            derive(0, 0, 0, 1) = done
            derive(0, -1, 0, 1) = throws.IllegalArgumentException
            derive(0, 5, 0, 1) = throws.IllegalArgumentException
            derive(0, MIN, 0, 1) = throws.IllegalArgumentException
            derive(0, MAX, 0, 1) = throws.IllegalArgumentException
            derivedValue(0) = 12
            """);
        String s = "Throws `IllegalArgumentException` if derived, operation, first or second is out of range";
        edges.add(24, s, "all of them", """
            derive(8, 5, 12, 108) = throws.IllegalArgumentException
            derive(-1, -1, -1, -1) = throws.IllegalArgumentException
            derivedValue(0) = throws.NoSuchElementException
            """);
        s = "If several exceptions apply, the one that is documented first is thrown.";
        edges.add(24, s, "it would depend on itself and a parameter is out of range", """
            derive(0, 5, 100, 0) = throws.IllegalArgumentException
            derive(0, 0, 100, 12) = throws.IllegalArgumentException
            derive(0, 0, 108, 100) = throws.IllegalArgumentException
            derive(0, 0, 100, 0) = throws.IllegalStateException
            """);
    }

    private static void operands(Edges edges) {
        String least = "An operand is a point (0 to 11) or a derived point (100 to 107).";
        edges.add(24, least, "there are twelve points", """
            12 times addPoint(4, 0, 1, false)
            put(0, 3) = 0
            put(11, 9) = 0
            send(24) = 192
            receive(192) = 1
            derive(0, 1, 11, 0) = done
            derivedValue(0) = 6
            derive(7, 0, 0, 0) = done
            derive(1, 1, 100, 107) = done
            derivedValue(1) = 0
            """);
        edges.add(24, "`first`: the first operand, 0 to 11 or 100 to 107", "the least and the greatest", """
            derive(1, 0, 0, 5) = done
            derive(1, 0, 11, 5) = done
            derive(1, 0, 100, 5) = done
            derive(1, 0, 107, 5) = done
            """);
        edges.add(24, "`second`: the second operand, 0 to 11 or 100 to 107", "the least and the greatest", """
            derive(1, 0, 5, 0) = done
            derive(1, 0, 5, 11) = done
            derive(1, 0, 5, 100) = done
            derive(1, 0, 5, 107) = done
            """);
        String wrong = "too small, too large, and between";
        String s = "Throws `IllegalArgumentException` if derived, operation, first or second is out of range";
        for (String operand : new String[] {"-1", "12", "99", "108", "MIN", "MAX"}) {
            String refused = " = throws.IllegalArgumentException\n";
            edges.add(24, "`first`: the first operand, 0 to 11 or 100 to 107", wrong + ": " + operand,
                received(5, 7, 0) + "derive(0, 0, 0, 1) = done\n"
                + "derive(0, 0, " + operand + ", 1)" + refused
                + "derivedValue(0) = 12\n");
            edges.add(24, "`second`: the second operand, 0 to 11 or 100 to 107", wrong + ": " + operand,
                received(5, 7, 0) + "derive(0, 0, 0, 1) = done\n"
                + "derive(0, 0, 0, " + operand + ")" + refused
                + "derivedValue(0) = 12\n");
            edges.add(24, s, "both operands: " + operand, "derive(0, 0, " + operand + ", " + operand + ")" + refused
                + "derivedValue(0) = throws.NoSuchElementException\n");
        }
    }

    private static void loops(Edges edges) {
        String s = "Throws `IllegalStateException` if it would depend on itself, directly or over other derived points";
        edges.add(24, s, "directly, with each operand", received(5, 7, 0) + """
            derive(0, 0, 100, 0) = throws.IllegalStateException
            derive(0, 0, 0, 100) = throws.IllegalStateException
            derive(7, 0, 107, 107) = throws.IllegalStateException
            derivedValue(0) = throws.NoSuchElementException
            derive(0, 0, 107, 0) = done
            """);
        edges.add(24, s, "directly, in place of one that is set", received(5, 7, 0) + """
            derive(3, 0, 0, 1) = done
            derive(3, 0, 103, 1) = throws.IllegalStateException
            derive(3, 0, 1, 103) = throws.IllegalStateException
            derivedValue(3) = 12
            """);
        edges.add(24, s, "over one other", received(5, 7, 0) + """
            derive(0, 0, 0, 101) = done
            derive(1, 0, 100, 1) = throws.IllegalStateException
            derive(1, 0, 1, 100) = throws.IllegalStateException
            derive(1, 0, 0, 1) = done
            derivedValue(0) = 17
            """);
        edges.add(24, s, "over all others", received(1, 1, 0) + """
            derive(0, 0, 0, 101) = done
            derive(1, 0, 102, 0) = done
            derive(2, 0, 0, 103) = done
            derive(3, 0, 104, 0) = done
            derive(4, 0, 0, 105) = done
            derive(5, 0, 106, 0) = done
            derive(6, 0, 0, 107) = done
            derive(7, 0, 100, 0) = throws.IllegalStateException
            derive(7, 0, 0, 100) = throws.IllegalStateException
            derive(7, 0, 103, 0) = throws.IllegalStateException
            derive(7, 0, 0, 106) = throws.IllegalStateException
            derive(7, 0, 0, 1) = done
            derivedValue(0) = 9
            """);
        edges.add(24, s, "over all others, downwards", received(1, 1, 0) + """
            derive(7, 0, 0, 106) = done
            derive(6, 0, 105, 0) = done
            derive(5, 0, 0, 104) = done
            derive(4, 0, 103, 0) = done
            derive(3, 0, 0, 102) = done
            derive(2, 0, 101, 0) = done
            derive(1, 0, 0, 100) = done
            derive(0, 0, 107, 0) = throws.IllegalStateException
            derive(0, 0, 0, 107) = throws.IllegalStateException
            derive(0, 0, 0, 1) = done
            derivedValue(7) = 9
            """);
        edges.add(24, s, "a loop that would close in the middle", received(1, 1, 0) + """
            derive(0, 0, 101, 0) = done
            derive(1, 0, 0, 0) = done
            derive(2, 0, 103, 0) = done
            derive(3, 0, 100, 0) = done
            derive(1, 0, 102, 0) = throws.IllegalStateException
            derive(1, 0, 0, 103) = throws.IllegalStateException
            derivedValue(2) = 5
            """);
    }

    private static void allowedChains(Edges edges) {
        String s = "if it would depend on itself, directly or over other derived points";
        edges.add(24, s, "it does not when what it was before is gone", received(5, 7, 0) + """
            derive(0, 0, 101, 0) = done
            derive(1, 0, 0, 1) = done
            derive(0, 0, 0, 0) = done
            derive(1, 0, 100, 0) = done
            derivedValue(1) = 15
            derive(0, 0, 101, 0) = throws.IllegalStateException
            derivedValue(1) = 15
            """);
        edges.add(24, s, "the old operands of the one that is set do not count", received(5, 7, 0) + """
            derive(0, 0, 101, 102) = done
            derive(1, 0, 103, 103) = done
            derive(0, 0, 101, 0) = done
            derive(2, 0, 100, 100) = done
            derive(3, 0, 1, 1) = done
            derivedValue(2) = 66
            """);
        edges.add(24, s, "another one twice, over two ways", received(5, 7, 0) + """
            derive(3, 0, 0, 1) = done
            derive(2, 0, 103, 103) = done
            derive(1, 0, 103, 102) = done
            derive(0, 0, 101, 102) = done
            derivedValue(0) = 60
            """);
        edges.add(24, s, "a point that has the number of it", received(5, 7, 0) + """
            derive(0, 0, 0, 0) = done
            derive(1, 0, 0, 1) = done
            derivedValue(0) = 10
            derivedValue(1) = 12
            """);
        edges.add(24, "A method that throws an exception changes nothing.", "the loop that was refused is not there",
            received(5, 7, 0) + """
            derive(0, 0, 101, 0) = done
            derive(1, 0, 100, 0) = throws.IllegalStateException
            derive(0, 0, 101, 1) = done
            derive(1, 0, 0, 0) = done
            derivedValue(0) = 17
            """);
    }

    private static void operations(Edges edges) {
        String s = "The value is what the operation makes of the values of both operands: 0, their sum; 1, the first"
            + " less the second; 2, their product; 3, the greater one; 4, the lesser one;"
            + " it is kept from -1000000 to 1000000.";
        String[] due = {"-4", "18", "-77", "7", "-11"};
        String[] turned = {"-4", "-18", "-77", "7", "-11"};
        for (int operation = 0; operation < due.length; operation++) {
            edges.add(25, s, "the operation " + operation, received(7, -11, 0)
                + "derive(0, " + operation + ", 0, 1) = done\n"
                + "derivedValue(0) = " + due[operation] + "\n"
                + "derive(0, " + operation + ", 1, 0) = done\n"
                + "derivedValue(0) = " + turned[operation] + "\n");
        }
        edges.add(25, s, "both operands are equal", received(6, 6, 0) + """
            derive(0, 3, 0, 1) = done
            derive(1, 4, 0, 1) = done
            derive(2, 1, 0, 1) = done
            derive(3, 2, 0, 0) = done
            derivedValue(0) = 6
            derivedValue(1) = 6
            derivedValue(2) = 0
            derivedValue(3) = 36
            """);
    }

    private static void limits(Edges edges) {
        String s = "it is kept from -1000000 to 1000000.";
        edges.add(25, s, "a product that is just the greatest, and one below it", received(1000, 999, 1001) + """
            derive(0, 2, 0, 0) = done
            derive(1, 2, 1, 2) = done
            derivedValue(0) = 1000000
            derivedValue(1) = 999999
            """);
        edges.add(25, s, "a product that is just the least", received(1000, -1000, 0) + """
            derive(0, 2, 0, 1) = done
            derivedValue(0) = -1000000
            """);
        edges.add(25, s, "a product that is one above the least", received(999, -1001, 0) + """
            derive(0, 2, 0, 1) = done
            derivedValue(0) = -999999
            """);
        edges.add(25, s, "products that are beyond both limits", received(1000, -1000, -1001) + """
            derive(0, 2, 0, 2) = done
            derivedValue(0) = -1000000
            derive(0, 2, 1, 2) = done
            derivedValue(0) = 1000000
            """);
        edges.add(25, s, "a sum that is one greater", received(1000, 1, -1) + """
            derive(0, 2, 0, 0) = done
            derive(1, 0, 100, 1) = done
            derive(2, 0, 100, 2) = done
            derive(3, 0, 102, 1) = done
            derivedValue(1) = 1000000
            derivedValue(2) = 999999
            derivedValue(3) = 1000000
            """);
        edges.add(25, s, "a difference that is one less", received(1000, -1000, 1) + """
            derive(0, 2, 0, 1) = done
            derive(1, 1, 100, 2) = done
            derive(2, 0, 100, 2) = done
            derive(3, 1, 102, 2) = done
            derivedValue(1) = -1000000
            derivedValue(2) = -999999
            derivedValue(3) = -1000000
            """);
        edges.add(25, s, "a difference that is one greater", received(1000, -1, 0) + """
            derive(0, 2, 0, 0) = done
            derive(1, 1, 100, 1) = done
            derivedValue(1) = 1000000
            """);
        edges.add(25, s, "products beyond the ints", received(2047, -2048, 0) + """
            derive(0, 2, 0, 0) = done
            derive(1, 2, 0, 1) = done
            derive(2, 2, 100, 100) = done
            derive(3, 2, 100, 101) = done
            derive(4, 2, 101, 101) = done
            derivedValue(2) = 1000000
            derivedValue(3) = -1000000
            derivedValue(4) = 1000000
            """);
        edges.add(25, s, "every operand is kept, not only the last value", received(2047, -2048, 0) + """
            derive(0, 2, 0, 0) = done
            derive(1, 0, 100, 1) = done
            derive(2, 3, 100, 101) = done
            derive(3, 4, 100, 101) = done
            derivedValue(1) = 997952
            derivedValue(2) = 1000000
            derivedValue(3) = 997952
            """);
    }

    private static void asked(Edges edges) {
        both(edges, "`derived`: 0 to 7", "the least and the greatest", received(5, 7, 0) + """
            derive(0, 0, 0, 1) = done
            derive(7, 0, 0, 0) = done
            asked(0) = 12 at 156
            asked(7) = 10 at 144
            """);
        both(edges, "Throws `IllegalArgumentException` if derived is out of range", "too small and too large",
            received(5, 7, 0) + """
            derive(0, 0, 0, 1) = done
            asked(-1) = throws.IllegalArgumentException
            asked(8) = throws.IllegalArgumentException
            asked(100) = throws.IllegalArgumentException
            asked(107) = throws.IllegalArgumentException
            asked(MIN) = throws.IllegalArgumentException
            asked(MAX) = throws.IllegalArgumentException
            asked(0) = 12 at 156
            """);
        both(edges, "If several exceptions apply, the one that is documented first is thrown.",
            "it is out of range and not set", """
            asked(-1) = throws.IllegalArgumentException
            asked(8) = throws.IllegalArgumentException
            asked(0) = throws.NoSuchElementException
            """);
        both(edges, "Each has an operation and two operands, or is not set.", "it is set then",
            received(5, 7, 0) + """
            asked(1) = throws.NoSuchElementException
            derive(1, 0, 0, 1) = done
            asked(1) = 12 at 156
            """);
        String later = """
            derive(0, 0, 0, 1) = done
            asked(0) = 12 at 156
            put(0, 9) = 5
            send(8) = 64
            asked(0) = 12 at 156
            receive(64) = 1
            asked(0) = 16 at 220
            """;
        value(edges, "Returns the value of a derived point.", "a frame is received anew", received(5, 7, 0) + later);
        time(edges, "Returns the time of a derived point.", "a frame is received anew", received(5, 7, 0) + later);
    }

    private static void nothingThere(Edges edges) {
        String s = "Throws `NoSuchElementException` if it is not set, or an operand has no value";
        both(edges, s, "it is not set", received(5, 7, 0) + """
            derive(0, 0, 0, 1) = done
            asked(1) = throws.NoSuchElementException
            asked(7) = throws.NoSuchElementException
            asked(0) = 12 at 156
            """);
        both(edges, s, "an operand is a point that does not exist", received(5, 7, 0) + """
            derive(0, 0, 0, 3) = done
            derive(1, 0, 11, 0) = done
            asked(0) = throws.NoSuchElementException
            asked(1) = throws.NoSuchElementException
            """);
        both(edges, s, "an operand is a derived point that is not set", received(5, 7, 0) + """
            derive(0, 0, 0, 101) = done
            derive(2, 0, 101, 0) = done
            asked(0) = throws.NoSuchElementException
            asked(2) = throws.NoSuchElementException
            derive(1, 0, 1, 1) = done
            asked(0) = 19 at 156
            asked(2) = 19 at 156
            """);
        both(edges, s, "an operand of an operand has no value", received(5, 7, 0) + """
            derive(0, 0, 0, 11) = done
            derive(1, 0, 0, 100) = done
            derive(2, 0, 101, 1) = done
            asked(2) = throws.NoSuchElementException
            derive(0, 0, 0, 0) = done
            asked(2) = 22 at 156
            """);
        both(edges, s, "an operand is a point without a sample", """
            addPoint(8, 1, 1, false) = 0
            addPoint(8, 1, 4, false) = 1
            derive(0, 0, 0, 1) = done
            derive(1, 0, 1, 0) = done
            derive(2, 0, 0, 0) = done
            send(40) = 320
            receive(191) = 0
            asked(2) = throws.NoSuchElementException
            receive(1) = 1
            asked(2) = 0 at 144
            receive(127) = 1
            asked(0) = throws.NoSuchElementException
            asked(1) = throws.NoSuchElementException
            receive(1) = 1
            asked(0) = 0 at 280
            asked(1) = 0 at 280
            """);
    }

    /** A row "asked(0) = 12 at 156" asks for the value in one case and for the time in another. */
    private static void both(Edges edges, String sentence, String title, String script) {
        value(edges, sentence, title, script);
        time(edges, sentence, title, script);
    }

    private static void value(Edges edges, String sentence, String title, String script) {
        edges.add(25, sentence, title, script.replaceAll(" at \\d+", "").replace("asked(", "derivedValue("));
    }

    private static void time(Edges edges, String sentence, String title, String script) {
        edges.add(26, sentence, title, script.replaceAll("-?\\d+ at ", "").replace("asked(", "derivedTime("));
    }

    private static void times(Edges edges) {
        edges.add(25, "Returns its value.", "0 is a value", received(0, 0, 0) + """
            derive(0, 0, 0, 1) = done
            derivedValue(0) = 0
            """);
        edges.add(26, "Returns its time.", "of one operand twice", received(5, 7, 0) + """
            derive(0, 0, 1, 1) = done
            derivedTime(0) = 156
            """);
        String s = "The time is the later one of the times of both.";
        edges.add(26, s, "the later one is the first operand, or the second", received(5, 7, 0) + """
            derive(0, 0, 0, 2) = done
            derive(1, 0, 2, 0) = done
            derive(2, 3, 0, 2) = done
            derive(3, 4, 0, 2) = done
            derivedTime(0) = 168
            derivedTime(1) = 168
            derivedTime(2) = 168
            derivedTime(3) = 168
            """);
        edges.add(26, s, "of different frames", """
            addPoint(8, 0, 1, false) = 0
            addPoint(8, 0, 2, false) = 1
            derive(0, 0, 0, 1) = done
            derive(1, 0, 1, 1) = done
            send(40) = 320
            receive(256) = 2
            derivedTime(0) = 208
            derivedTime(1) = 152
            receive(64) = 1
            derivedTime(0) = 280
            """);
        edges.add(26, s, "over other derived points", received(5, 7, 0) + """
            derive(0, 0, 0, 2) = done
            derive(1, 0, 0, 1) = done
            derive(2, 1, 100, 101) = done
            derive(3, 1, 101, 0) = done
            derivedTime(2) = 168
            derivedTime(3) = 156
            """);
        edges.add(26, s, "the least time", """
            addPoint(8, 0, 1, false) = 0
            send(24) = 192
            write(136, 00000000)
            receive(192) = 1
            derive(0, 0, 0, 0) = done
            derivedTime(0) = 16
            """);
    }
}
