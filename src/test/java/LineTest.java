/** Promises 7 to 12: send, sent, onLine, bit, flip, cut. */
public final class LineTest {
    public static void main(String[] args) {
        framesWithoutPoints();
        countersCount();
        sendCountsWords();
        wrongNumbersOfWords();
        atMostAThousandWords();
        codes();
        samplesLieAtTheirPlaces();
        phasesAreSentInTheirFrames();
        samplesTakeTheValueOfTheirFirstWord();
        pairsTakeTheirOwnValues();
        bitsAreReadAndTurnedOver();
        bitsAreCutOut();
        cutAndSendAgain();
        cutsOfAFullLine();
        wrongCuts();
        Check.end("LineTest");
    }

    private static void framesWithoutPoints() {
        Commutator x = new Commutator();
        Check.due("send(16)", 128, () -> x.send(16));
        Check.same("two empty frames", Lines.frame(0, "") + Lines.frame(1, ""), Lines.of(x));
        Check.due("onLine", 128, () -> x.onLine());
        Check.due("sent", 16, () -> x.sent());
    }

    private static void countersCount() {
        Commutator x = new Commutator();
        Lines.frames(x, 125);
        StringBuilder want = new StringBuilder();
        for (int k = 0; k < 125; k++) {
            want.append(Lines.frame(k, ""));
        }
        Check.same("125 frames", want.toString(), Lines.of(x));
    }

    private static void sendCountsWords() {
        Commutator x = new Commutator();
        Check.due("send(1)", 8, () -> x.send(1));
        Check.same("the first word", Lines.SYNC, Lines.of(x));
        Check.due("send(2)", 24, () -> x.send(2));
        Check.due("sent after three words", 3, () -> x.sent());
        x.receive(5);
        Check.due("onLine after receive(5)", 19, () -> x.onLine());
        Check.due("sent after receive(5)", 3, () -> x.sent());
        Check.due("send(5)", 59, () -> x.send(5));
        Check.due("send(64)", 571, () -> x.send(64));
        Check.due("sent then", 72, () -> x.sent());
    }

    private static void wrongNumbersOfWords() {
        Commutator x = new Commutator();
        x.send(3);
        for (int words : new int[] {Integer.MIN_VALUE, -1, 0, 65, 1001, Integer.MAX_VALUE}) {
            Check.badArgument("send(" + words + ")", x, () -> x.send(words));
        }
    }

    private static void atMostAThousandWords() {
        Commutator x = new Commutator();
        Lines.send(x, 960);
        Check.badState("send(41) after 960 words", x, () -> x.send(41));
        Check.badArgument("send(65) after 960 words", x, () -> x.send(65));
        Check.due("send(39)", 7992, () -> x.send(39));
        Check.badState("send(2) after 999 words", x, () -> x.send(2));
        Check.due("send(1) after 999 words", 8000, () -> x.send(1));
        Check.badState("send(1) after 1000 words", x, () -> x.send(1));
        Check.badArgument("send(0) after 1000 words", x, () -> x.send(0));
        Lines.takeAll(x);
        Check.badState("send(1) after 1000 words were taken", x, () -> x.send(1));
        Check.due("sent then", 1000, () -> x.sent());
    }

    private static void codes() {
        code(0, 5, 0, "00000");
        code(0, 5, 19, "10011");
        code(0, 5, 31, "11111");
        code(0, 1, 1, "1");
        code(0, 12, 4095, "111111111111");
        code(1, 5, 15, "01111");
        code(1, 5, -16, "10000");
        code(1, 5, -1, "11111");
        code(1, 5, -6, "11010");
        code(1, 12, -2048, "100000000000");
        code(2, 5, 15, "01111");
        code(2, 5, -15, "11111");
        code(2, 5, -1, "10001");
        code(2, 5, 0, "00000");
        code(2, 2, -1, "11");
        code(3, 5, -16, "00000");
        code(3, 5, 0, "10000");
        code(3, 5, 15, "11111");
        code(3, 5, -1, "01111");
        code(3, 2, -2, "00");
    }

    private static void code(int convention, int width, int value, String want) {
        Commutator x = new Commutator();
        x.addPoint(3, 0, 1, false);
        x.addPoint(width, convention, 1, false);
        x.put(1, value);
        x.send(8);
        Check.same("convention " + convention + " of " + value, Lines.frame(0, "000" + want), Lines.of(x));
    }

    private static void samplesLieAtTheirPlaces() {
        Commutator x = new Commutator();
        x.addPoint(3, 0, 1, true);
        x.addPoint(7, 1, 1, false);
        x.addPoint(11, 0, 1, false);
        x.addPoint(12, 0, 1, false);
        x.put(0, 5);
        x.put(1, -3);
        x.put(2, 1365);
        x.put(3, 4095);
        x.send(8);
        String want = "101" + "1111101" + "10101010101" + "000" + "101" + "111111111111";
        Check.same("a packed frame", Lines.frame(0, want), Lines.of(x));
    }

    private static void phasesAreSentInTheirFrames() {
        Commutator y = new Commutator();
        for (int i = 0; i < 3; i++) {
            y.addPoint(12, 0, 1, false);
        }
        y.addPoint(12, 0, 2, false);
        y.addPoint(12, 0, 4, false);
        y.addPoint(12, 0, 4, false);
        y.put(3, 4095);
        y.put(4, 1);
        y.put(5, 2);
        Lines.frames(y, 9);
        String none = "000000000000000000000000000000000000";
        String[] want = {"111111111111", "000000000001", "111111111111", "000000000010"};
        StringBuilder line = new StringBuilder();
        for (int k = 0; k < 9; k++) {
            line.append(Lines.frame(k, none + want[k % 4]));
        }
        Check.same("points of the periods 2 and 4", line.toString(), Lines.of(y));
    }

    private static void samplesTakeTheValueOfTheirFirstWord() {
        Commutator x = new Commutator();
        x.addPoint(4, 0, 1, false);
        x.addPoint(12, 0, 1, false);
        x.addPoint(8, 0, 1, false);
        x.put(0, 15);
        x.put(1, 4095);
        x.put(2, 255);
        x.send(3);
        x.put(0, 0);
        x.put(1, 0);
        x.put(2, 0);
        x.send(1);
        x.put(2, 129);
        x.send(4);
        Check.same("values put between the words",
                Lines.frame(0, "1111" + "111111111111" + "10000001"), Lines.of(x));
        x.send(2);
        x.put(0, 9);
        x.send(6);
        Check.same("the next frame", Lines.frame(1, "1001" + "000000000000" + "10000001"),
                Lines.of(x).substring(64));
    }

    private static void pairsTakeTheirOwnValues() {
        Commutator x = new Commutator();
        x.addPoint(12, 0, 1, true);
        x.put(0, 1);
        x.send(3);
        x.put(0, 2);
        x.send(2);
        x.put(0, 3);
        x.send(1);
        x.put(0, 4);
        x.send(2);
        Check.same("two values of a pair",
                Lines.frame(0, "000000000001" + "000000000000" + "000000000011"), Lines.of(x));
    }

    private static void bitsAreReadAndTurnedOver() {
        Commutator x = new Commutator();
        x.send(2);
        Check.due("flip(0)", 0, () -> x.flip(0));
        Check.due("bit(0)", 0, () -> x.bit(0));
        Check.due("flip(15)", 1, () -> x.flip(15));
        Check.due("bit(15)", 1, () -> x.bit(15));
        Check.due("flip(15) again", 0, () -> x.flip(15));
        Check.same("the line then", "0011100000000000", Lines.of(x));
        for (int index : new int[] {Integer.MIN_VALUE, -1, 16, 17, 8000, Integer.MAX_VALUE}) {
            Check.noSuchIndex("bit(" + index + ")", x, () -> x.bit(index));
            Check.noSuchIndex("flip(" + index + ")", x, () -> x.flip(index));
        }
        x.receive(2);
        Check.due("bit(0) after receive(2)", 1, () -> x.bit(0));
        Check.due("flip(3) after receive(2)", 1, () -> x.flip(3));
        Check.same("the line after receive(2)", "11110000000000", Lines.of(x));
        Check.noSuchIndex("bit(14) after receive(2)", x, () -> x.bit(14));
        Check.noSuchIndex("bit(-1) after receive(2)", x, () -> x.bit(-1));
        x.receive(14);
        Check.noSuchIndex("bit(0) of an empty line", x, () -> x.bit(0));
        Check.noSuchIndex("flip(0) of an empty line", x, () -> x.flip(0));
    }

    private static void bitsAreCutOut() {
        Commutator x = new Commutator();
        x.send(3);
        Check.due("cut(1, 2)", 22, () -> x.cut(1, 2));
        Check.same("the line after cut(1, 2)", "1110000000000000000000", Lines.of(x));
        Check.due("cut(0, 1)", 21, () -> x.cut(0, 1));
        Check.due("cut(20, 1)", 20, () -> x.cut(20, 1));
        Check.same("the line after cuts at its ends", "11000000000000000000", Lines.of(x));
        x.receive(1);
        Check.due("taken of bits that were not cut", 1, () -> x.taken());
        Check.due("cut(0, 1) after receive(1)", 18, () -> x.cut(0, 1));
        Check.due("cut(0, 18)", 0, () -> x.cut(0, 18));
        Check.due("onLine then", 0, () -> x.onLine());
        Check.due("receive of an empty line", 0, () -> x.receive(1));
        Check.due("taken then", 1, () -> x.taken());
    }

    private static void cutAndSendAgain() {
        Commutator x = new Commutator();
        for (int i = 0; i < 125; i++) {
            x.send(8);
            x.cut(8, 55);
            x.receive(1);
        }
        Check.due("sent after many cuts", 1000, () -> x.sent());
        Check.due("onLine after many cuts", 1000, () -> x.onLine());
        Check.due("taken after many cuts", 125, () -> x.taken());
    }

    private static void cutsOfAFullLine() {
        Commutator x = new Commutator();
        Lines.send(x, 1000);
        Check.due("cut(4000, 64)", 7936, () -> x.cut(4000, 64));
        Check.due("cut(7900, 36)", 7900, () -> x.cut(7900, 36));
        Check.due("cut(0, 64)", 7836, () -> x.cut(0, 64));
        StringBuilder want = new StringBuilder();
        for (int bit = 64; bit < 7964; bit++) {
            if (bit < 4000 || bit >= 4064) {
                want.append(Lines.frame(bit / 64, "").charAt(bit % 64));
            }
        }
        Check.same("the bits that are left", want.toString(), Lines.of(x));
        Check.noSuchIndex("cut(7836, 1)", x, () -> x.cut(7836, 1));
        Check.due("cut(0, 7836)", 0, () -> x.cut(0, 7836));
    }

    private static void wrongCuts() {
        Commutator x = new Commutator();
        x.send(2);
        x.receive(3);
        int least = Integer.MIN_VALUE;
        int most = Integer.MAX_VALUE;
        for (int count : new int[] {least, -1, 0}) {
            Check.badArgument("cut(0, " + count + ")", x, () -> x.cut(0, count));
            Check.badArgument("cut(-1, " + count + ")", x, () -> x.cut(-1, count));
            Check.badArgument("cut(99, " + count + ")", x, () -> x.cut(99, count));
        }
        int[][] wrong = {{-1, 1}, {-1, 2}, {least, 1}, {least, most}, {13, 1}, {12, 2}, {0, 14},
            {1, 13}, {most, 1}, {most, most}, {1, most}, {0, most}, {-3, 16}};
        for (int[] w : wrong) {
            Check.noSuchIndex("cut(" + w[0] + ", " + w[1] + ")", x, () -> x.cut(w[0], w[1]));
        }
        Check.due("cut(12, 1)", 12, () -> x.cut(12, 1));
    }
}
