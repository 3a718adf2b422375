/** Promises 27 and 28: matches, bestOffset. */
public final class SecondWayTest {
    public static void main(String[] args) {
        onlyTakenBitsCount();
        everyBitOfTheSyncWordCounts();
        cutBitsDoNotCount();
        offsetsOfCutLines();
        ofSeveralTheLowest();
        wordsBeyondAFrame();
        wrongOffsets();
        Check.end("SecondWayTest");
    }

    private static void onlyTakenBitsCount() {
        Commutator x = new Commutator();
        Lines.frames(x, 3);
        Check.due("matches before any bit", 0, () -> x.matches(0));
        x.receive(7);
        Check.due("matches of seven bits", 0, () -> x.matches(0));
        x.receive(1);
        Check.due("matches of eight bits", 1, () -> x.matches(0));
        x.receive(63);
        Check.due("matches of 71 bits", 1, () -> x.matches(0));
        x.receive(1);
        Check.due("matches of 72 bits", 2, () -> x.matches(0));
        Lines.takeAll(x);
        Check.due("matches of three frames", 3, () -> x.matches(0));
        for (int offset = 1; offset < 64; offset++) {
            int o = offset;
            Check.due("matches(" + o + ")", 0, () -> x.matches(o));
        }
    }

    private static void everyBitOfTheSyncWordCounts() {
        for (int bit = 0; bit < 8; bit++) {
            Commutator x = new Commutator();
            Lines.frames(x, 4);
            x.flip(64 + bit);
            Lines.takeAll(x);
            int n = bit;
            Check.due("matches with the bit " + n + " of a sync word turned over", 3, () -> x.matches(0));
        }
    }

    private static void cutBitsDoNotCount() {
        Commutator x = new Commutator();
        Lines.frames(x, 4);
        x.receive(67);
        x.cut(0, 10);
        Lines.takeAll(x);
        Check.due("matches before the cut", 1, () -> x.matches(0));
        Check.due("matches behind the cut", 2, () -> x.matches(54));
        Check.due("bestOffset behind the cut", 54, () -> x.bestOffset());
    }

    private static void offsetsOfCutLines() {
        for (int cut = 1; cut < 64; cut++) {
            Commutator x = new Commutator();
            Lines.frames(x, 5);
            x.cut(0, cut);
            int o = 64 - cut;
            Check.due("bestOffset before any bit", 0, () -> x.bestOffset());
            Lines.takeAll(x);
            Check.due("matches(" + o + ")", 4, () -> x.matches(o));
            Check.due("bestOffset with sync words at " + o, o, () -> x.bestOffset());
        }
    }

    private static void ofSeveralTheLowest() {
        Commutator x = new Commutator();
        x.addPoint(8, 0, 1, false);
        x.put(0, 184);
        Lines.frames(x, 4);
        Lines.takeAll(x);
        Check.due("matches(0)", 4, () -> x.matches(0));
        Check.due("matches(16)", 4, () -> x.matches(16));
        Check.due("bestOffset of two", 0, () -> x.bestOffset());
        x.send(8);
        x.flip(3);
        Lines.takeAll(x);
        Check.due("bestOffset with one more of the other", 16, () -> x.bestOffset());
        x.send(2);
        Lines.takeAll(x);
        Check.due("bestOffset of two again", 0, () -> x.bestOffset());
        x.send(8);
        x.send(3);
        Check.due("matches(16) before the bits are taken", 5, () -> x.matches(16));
    }

    private static void wordsBeyondAFrame() {
        // a sync word that begins with the last bits of one frame and ends in the next
        Commutator x = new Commutator();
        Lines.frames(x, 4);
        Lines.write(x, 63, "10111000");
        Lines.write(x, 191, "10111000");
        Lines.takeAll(x);
        Check.due("matches(63)", 2, () -> x.matches(63));
        Check.due("matches(0)", 2, () -> x.matches(0));
        Check.due("bestOffset", 0, () -> x.bestOffset());
    }

    private static void wrongOffsets() {
        Commutator x = new Commutator();
        Lines.frames(x, 4);
        x.receive(200);
        for (int offset : new int[] {Integer.MIN_VALUE, -64, -1, 64, 65, 128, Integer.MAX_VALUE}) {
            Check.badArgument("matches(" + offset + ")", x, () -> x.matches(offset));
        }
        Check.due("matches(63)", 0, () -> x.matches(63));
    }
}
