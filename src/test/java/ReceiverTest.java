/** Promises 13 to 23: receive, state, taken, frames, lost, repeats, number, value, time, samples, missing. */
public final class ReceiverTest {
    public static void main(String[] args) {
        bitByBitToLock();
        receiveAnswersUsedFrames();
        receiveTakesWhatThereIs();
        wrongNumbersOfBits();
        searchWantsTheWholeSyncWord();
        searchFindsItAnywhere();
        checkWantsTheWholeSyncWord();
        checkDoesNotLookBetween();
        judgedBitsCountAmongTheLatest();
        lockForgivesOneBit();
        lockForgivesOneMiss();
        missesAreForgotten();
        twoMissesEndTheLock();
        missesStartAnewWithALock();
        matchesStartAnewWithACheck();
        falseSyncWordOfAPoint();
        firstNumberIsTheCounter();
        gaps();
        gapsByPeriod();
        gapOverTheEndOfTheCounter();
        repeats();
        gapOverALostLock();
        samplesByTheCounterReceived();
        timesAndCountsOfPairs();
        allCodesAreRead();
        pointsWithoutSamples();
        wrongPoints();
        Check.end("ReceiverTest");
    }

    /** One point of 8 bits in each frame, its value the frame's number plus 100. */
    private static Commutator counting(int frames) {
        Commutator x = new Commutator();
        x.addPoint(8, 0, 1, false);
        for (int k = 0; k < frames; k++) {
            x.put(0, 100 + k);
            x.send(8);
        }
        return x;
    }

    private static void told(Commutator x, String when, int state, int frames, int lost, int repeats) {
        Check.due("state " + when, state, () -> x.state());
        Check.due("frames " + when, frames, () -> x.frames());
        Check.due("lost " + when, lost, () -> x.lost());
        Check.due("repeats " + when, repeats, () -> x.repeats());
    }

    private static void bitByBitToLock() {
        Commutator x = counting(5);
        for (int bit = 1; bit <= 320; bit++) {
            int used = bit == 192 || bit == 256 || bit == 320 ? 1 : 0;
            int state = bit < 8 ? 0 : bit < 136 ? 1 : 2;
            int all = bit / 64 < 3 ? 0 : bit / 64 - 2;
            Check.due("receive(1) of bit " + bit, used, () -> x.receive(1));
            told(x, "after bit " + bit, state, all, 0, 0);
            int n = bit;
            Check.due("taken after bit " + bit, n, () -> x.taken());
            Check.due("onLine after bit " + bit, 320 - n, () -> x.onLine());
            if (all > 0) {
                Check.due("number after bit " + bit, all + 1, () -> x.number());
                Check.due("value after bit " + bit, 101 + all, () -> x.value(0));
                Check.due("time after bit " + bit, 64 * (all + 1) + 16, () -> x.time(0));
                Check.due("samples after bit " + bit, all, () -> x.samples(0));
                Check.due("missing after bit " + bit, 0, () -> x.missing(0));
            } else {
                Check.noElement("number after bit " + bit, x, () -> x.number());
                Check.noElement("value after bit " + bit, x, () -> x.value(0));
                Check.noElement("time after bit " + bit, x, () -> x.time(0));
            }
        }
    }

    private static void receiveAnswersUsedFrames() {
        Commutator x = counting(20);
        Lines.write(x, 64 * 6 + 8, Lines.binary(5, 8));
        Check.due("receive(64 * 4)", 2, () -> x.receive(64 * 4));
        Check.due("receive(63)", 0, () -> x.receive(63));
        Check.due("receive(65)", 2, () -> x.receive(65));
        Check.due("receive of a repeat", 0, () -> x.receive(64));
        Check.due("receive(4096)", 13, () -> x.receive(4096));
        told(x, "after a repeat", 2, 17, 1, 1);
    }

    private static void receiveTakesWhatThereIs() {
        Commutator x = new Commutator();
        Check.due("receive of an empty line", 0, () -> x.receive(4096));
        Check.due("taken then", 0, () -> x.taken());
        Lines.frames(x, 100);
        Check.due("receive(4096)", 62, () -> x.receive(4096));
        Check.due("taken then", 4096, () -> x.taken());
        Check.due("onLine then", 6400 - 4096, () -> x.onLine());
        Check.due("receive(4096) again", 36, () -> x.receive(4096));
        Check.due("taken then", 6400, () -> x.taken());
        Check.due("onLine then", 0, () -> x.onLine());
    }

    private static void wrongNumbersOfBits() {
        Commutator x = counting(4);
        x.receive(200);
        for (int bits : new int[] {Integer.MIN_VALUE, -1, 0, 4097, Integer.MAX_VALUE}) {
            Check.badArgument("receive(" + bits + ")", x, () -> x.receive(bits));
        }
        Check.due("receive(56)", 1, () -> x.receive(56));
    }

    private static void searchWantsTheWholeSyncWord() {
        for (int bit = 0; bit < 8; bit++) {
            Commutator x = new Commutator();
            x.send(4);
            x.flip(bit);
            x.receive(32);
            int n = bit;
            Check.due("state with the sync bit " + n + " turned over", 0, () -> x.state());
        }
        Commutator x = new Commutator();
        x.send(1);
        x.cut(0, 1);
        x.receive(7);
        Check.due("state after seven bits of the sync word", 0, () -> x.state());
    }

    private static void searchFindsItAnywhere() {
        for (int cut = 1; cut <= 64; cut++) {
            Commutator x = counting(6);
            x.cut(0, cut);
            int n = cut;
            Check.due("receive with " + n + " bits cut out", 3, () -> x.receive(4096));
            told(x, "with " + n + " bits cut out", 2, 3, 0, 0);
            Check.due("number then", 5, () -> x.number());
        }
    }

    private static void checkWantsTheWholeSyncWord() {
        for (int bit = 0; bit < 8; bit++) {
            Commutator x = counting(8);
            x.flip(64 * 2 + bit);
            x.receive(64 * 2 + 7);
            int n = bit;
            Check.due("state before the third sync word with bit " + n + " turned over", 1, () -> x.state());
            x.receive(1);
            Check.due("state behind it", 0, () -> x.state());
            Check.due("receive of the rest", 3, () -> x.receive(4096));
            told(x, "after a check anew", 2, 3, 0, 0);
            Check.due("value then", 107, () -> x.value(0));
        }
    }

    private static void checkDoesNotLookBetween() {
        // four bits are missing, so the second sync word ends within the bits that are judged
        Commutator x = counting(7);
        x.cut(20, 4);
        x.receive(60 + 8);
        Check.due("state when a sync word ends too early", 1, () -> x.state());
        x.receive(4);
        Check.due("state behind the judged bits", 0, () -> x.state());
        x.receive(64 - 4 - 1);
        Check.due("state before the next sync word is whole", 0, () -> x.state());
        x.receive(1);
        Check.due("state with the next sync word", 1, () -> x.state());
        Check.due("receive of the rest", 3, () -> x.receive(4096));
        Check.due("number then", 6, () -> x.number());
    }

    private static void judgedBitsCountAmongTheLatest() {
        Commutator x = counting(8);
        Lines.write(x, 64, "00001011" + "10000000");
        x.receive(72);
        Check.due("state when a check fails with half a sync word", 0, () -> x.state());
        x.receive(3);
        Check.due("state three bits later", 0, () -> x.state());
        x.receive(1);
        Check.due("state four bits later", 1, () -> x.state());

        Commutator y = counting(10);
        Lines.write(y, 64 * 4, "00000000");
        Lines.write(y, 64 * 5, "01010101" + "11000000");
        y.receive(64 * 5 + 8);
        Check.due("state when a lock ends with three bits of a sync word", 0, () -> y.state());
        y.receive(4);
        Check.due("state four bits later, with the lock lost", 0, () -> y.state());
        y.receive(1);
        Check.due("state five bits later, with the lock lost", 1, () -> y.state());
    }

    private static void lockForgivesOneBit() {
        Commutator x = counting(40);
        for (int k = 3; k < 40; k++) {
            x.flip(64 * k + k % 8);
        }
        Check.due("receive with one wrong bit in each sync word", 38, () -> x.receive(4096));
        told(x, "then", 2, 38, 0, 0);
    }

    private static void lockForgivesOneMiss() {
        Commutator x = counting(10);
        Lines.write(x, 64 * 4, "01000111");
        x.flip(64 * 5 + 1);
        x.receive(64 * 4 + 8);
        Check.due("state after one miss", 2, () -> x.state());
        Check.due("receive of the frame behind the miss", 1, () -> x.receive(56));
        Check.due("its value", 104, () -> x.value(0));
        Check.due("receive of the rest", 5, () -> x.receive(4096));
        told(x, "then", 2, 8, 0, 0);
    }

    private static void missesAreForgotten() {
        Commutator x = counting(20);
        for (int k = 4; k < 20; k += 2) {
            x.flip(64 * k + 2);
            x.flip(64 * k + 5);
        }
        Check.due("receive with a miss in every other frame", 18, () -> x.receive(4096));
        told(x, "then", 2, 18, 0, 0);
        // a sync word with one wrong bit makes the misses forgotten too
        Commutator y = counting(20);
        for (int k = 4; k < 20; k++) {
            y.flip(64 * k + 3);
            if (k % 2 == 0) {
                y.flip(64 * k + 4);
            }
        }
        Check.due("receive with a miss or one wrong bit", 18, () -> y.receive(4096));
        Check.due("state then", 2, () -> y.state());
    }

    private static void twoMissesEndTheLock() {
        Commutator x = counting(12);
        for (int k = 4; k < 6; k++) {
            x.flip(64 * k);
            x.flip(64 * k + 7);
        }
        Check.due("receive before the second miss", 3, () -> x.receive(64 * 5 + 7));
        Check.due("state before the second miss", 2, () -> x.state());
        Check.due("receive(1)", 0, () -> x.receive(1));
        Check.due("state after two misses", 0, () -> x.state());
        Check.due("receive of the frame that did not begin", 0, () -> x.receive(56));
        x.receive(8);
        Check.due("state with the next sync word", 1, () -> x.state());
        x.receive(127);
        Check.due("state before the third match", 1, () -> x.state());
        x.receive(1);
        Check.due("state with the third match", 2, () -> x.state());
        Check.due("receive of the rest", 4, () -> x.receive(4096));
        told(x, "then", 2, 7, 3, 0);
        Check.due("number then", 11, () -> x.number());
        Check.due("missing then", 3, () -> x.missing(0));
        Check.due("samples then", 7, () -> x.samples(0));
    }

    private static void missesStartAnewWithALock() {
        Commutator x = counting(16);
        for (int k : new int[] {4, 5, 9}) {
            x.flip(64 * k + 1);
            x.flip(64 * k + 2);
        }
        x.receive(64 * 10);
        told(x, "with one miss of a new lock", 2, 5, 3, 0);
        x.receive(64 * 6);
        told(x, "then", 2, 11, 3, 0);
        Commutator y = counting(16);
        for (int k : new int[] {4, 5, 9, 10}) {
            y.flip(64 * k + 1);
            y.flip(64 * k + 2);
        }
        y.receive(64 * 10 + 7);
        told(y, "before the second miss of a new lock", 2, 5, 3, 0);
        y.receive(1);
        told(y, "with the second miss of a new lock", 0, 5, 3, 0);
    }

    private static void matchesStartAnewWithACheck() {
        Commutator x = counting(9);
        x.flip(64 * 2);
        x.receive(64 * 4 + 8);
        Check.due("state with the second match of a new check", 1, () -> x.state());
        x.receive(64);
        Check.due("state with the third", 2, () -> x.state());
    }

    private static void falseSyncWordOfAPoint() {
        Commutator x = new Commutator();
        x.addPoint(8, 0, 1, false);
        x.put(0, 184);
        Lines.frames(x, 6);
        x.cut(0, 10);
        // the search finds the point's value, and so do the checks
        x.receive(4096);
        told(x, "with frames that begin at a point", 2, 1, 0, 2);
        Check.due("number of such a frame", 0, () -> x.number());
        Check.due("value of such a frame", 0, () -> x.value(0));
    }

    private static void firstNumberIsTheCounter() {
        Commutator x = counting(6);
        Lines.write(x, 64 * 2 + 8, Lines.binary(200, 8));
        x.receive(64 * 3);
        Check.due("number of the first frame", 200, () -> x.number());
        Check.due("time in the first frame", 64 * 200 + 16, () -> x.time(0));
        told(x, "after the first frame", 2, 1, 0, 0);
        x.receive(64);
        Check.due("number of the second frame", 259, () -> x.number());
        Check.due("time in the second frame", 64 * 259 + 16, () -> x.time(0));
        told(x, "after the second frame", 2, 2, 58, 0);
        Check.due("missing after the second frame", 58, () -> x.missing(0));
        x.receive(128);
        Check.due("number of the fourth frame", 261, () -> x.number());
        told(x, "after the fourth frame", 2, 4, 58, 0);
    }

    private static void gaps() {
        Commutator x = counting(12);
        x.cut(64 * 6, 64 * 3);
        Check.due("receive over a gap", 7, () -> x.receive(4096));
        told(x, "over a gap", 2, 7, 3, 0);
        Check.due("number over a gap", 11, () -> x.number());
        Check.due("value over a gap", 111, () -> x.value(0));
        Check.due("time over a gap", 64 * 11 + 16, () -> x.time(0));
        Check.due("samples over a gap", 7, () -> x.samples(0));
        Check.due("missing over a gap", 3, () -> x.missing(0));
    }

    private static void gapsByPeriod() {
        for (int first = 4; first < 12; first++) {
            for (int length = 1; length < 9; length++) {
                gapByPeriod(first, length);
            }
        }
    }

    /** Cuts frames out and counts the missing samples of every period and phase. */
    private static void gapByPeriod(int first, int length) {
        Commutator x = new Commutator();
        x.addPoint(12, 0, 1, false);
        x.addPoint(11, 0, 1, true);
        x.addPoint(12, 0, 2, false);
        x.addPoint(12, 0, 2, false);
        for (int i = 0; i < 8; i++) {
            x.addPoint(1, 0, 4, false);
        }
        Check.due("place in the odd frames", 123, () -> x.place(3));
        Check.due("place in the last of four frames", 347, () -> x.place(11));
        Lines.frames(x, 24);
        x.cut(64 * first, 64 * length);
        x.receive(4096);
        int[] count = new int[4];
        for (int k = first; k < first + length; k++) {
            count[k % 4]++;
        }
        String gap = " with the frames from " + first + " lost, " + length;
        int even = count[0] + count[2];
        int odd = count[1] + count[3];
        Check.due("missing of the period 1" + gap, length, () -> x.missing(0));
        Check.due("missing of a pair" + gap, 2 * length, () -> x.missing(1));
        Check.due("missing of even frames" + gap, even, () -> x.missing(2));
        Check.due("missing of odd frames" + gap, odd, () -> x.missing(3));
        Check.due("samples of a pair" + gap, 2 * (22 - length), () -> x.samples(1));
        Check.due("samples of even frames" + gap, 11 - even, () -> x.samples(2));
        Check.due("samples of odd frames" + gap, 11 - odd, () -> x.samples(3));
        for (int i = 4; i < 12; i++) {
            int n = i;
            int phase = (n - 4) / 2;
            Check.due("missing of the period 4" + gap, count[phase], () -> x.missing(n));
        }
    }

    private static void gapOverTheEndOfTheCounter() {
        Commutator x = new Commutator();
        x.addPoint(4, 0, 1, false);
        x.addPoint(4, 0, 4, false);
        Lines.frames(x, 8);
        int[] counters = {0, 0, 253, 255, 0, 2, 1, 5};
        for (int k = 2; k < 8; k++) {
            Lines.write(x, 64 * k + 8, Lines.binary(counters[k], 8));
        }
        x.receive(64 * 5);
        told(x, "over the end of the counter", 2, 3, 1, 0);
        Check.due("number over the end", 256, () -> x.number());
        Check.due("time over the end", 64 * 256 + 20, () -> x.time(1));
        x.receive(64);
        told(x, "behind the end", 2, 4, 2, 0);
        x.receive(64);
        told(x, "with a counter that goes back by 1", 2, 5, 256, 0);
        Check.due("number with a counter that goes back", 513, () -> x.number());
        Check.due("missing of the period 1", 256, () -> x.missing(0));
        Check.due("missing of the period 4", 64, () -> x.missing(1));
        x.receive(64);
        told(x, "at last", 2, 6, 259, 0);
        Check.due("number at last", 517, () -> x.number());
        Check.due("missing of the period 4 at last", 65, () -> x.missing(1));
    }

    private static void repeats() {
        Commutator x = counting(9);
        Lines.write(x, 64 * 4 + 8, Lines.binary(3, 8));
        Lines.write(x, 64 * 5 + 8, Lines.binary(3, 8));
        x.receive(64 * 4);
        Check.due("receive of a repeat", 0, () -> x.receive(64));
        told(x, "after a repeat", 2, 2, 0, 1);
        Check.due("value after a repeat", 103, () -> x.value(0));
        Check.due("time after a repeat", 64 * 3 + 16, () -> x.time(0));
        Check.due("number after a repeat", 3, () -> x.number());
        Check.due("samples after a repeat", 2, () -> x.samples(0));
        Check.due("receive of another repeat", 0, () -> x.receive(64));
        told(x, "after two repeats", 2, 2, 0, 2);
        Check.due("receive of a good frame", 1, () -> x.receive(64));
        told(x, "after a good frame", 2, 3, 2, 2);
        Check.due("number after a good frame", 6, () -> x.number());
        Check.due("missing after a good frame", 2, () -> x.missing(0));
    }

    private static void gapOverALostLock() {
        Commutator x = counting(14);
        x.cut(64 * 6 + 30, 1);
        x.receive(4096);
        // frame 6 is read one bit short, at 7 there is a miss, at 8 the second
        Check.due("state over a lost lock", 2, () -> x.state());
        Check.due("value over a lost lock", 113, () -> x.value(0));
        Check.due("number over a lost lock and a wrong counter", 13 + 256, () -> x.number());
    }

    private static void samplesByTheCounterReceived() {
        Commutator x = new Commutator();
        x.addPoint(12, 0, 1, false);
        x.addPoint(8, 0, 2, false);
        x.addPoint(8, 0, 4, false);
        x.put(1, 77);
        Lines.frames(x, 4);
        Lines.write(x, 64 * 2 + 8, Lines.binary(9, 8));
        Lines.write(x, 64 * 3 + 8, Lines.binary(14, 8));
        x.receive(64 * 3);
        Check.due("samples of even frames with the counter 9", 0, () -> x.samples(1));
        x.receive(64);
        Check.due("samples of even frames with the counter 14", 1, () -> x.samples(1));
        Check.due("value of a frame that did not have it", 0, () -> x.value(1));
        Check.due("time of that", 64 * 14 + 28, () -> x.time(1));
        Check.due("samples of every fourth frame", 0, () -> x.samples(2));
        Check.due("missing of even frames", 2, () -> x.missing(1));
        Check.due("missing of every fourth frame", 1, () -> x.missing(2));
        Check.noElement("value of every fourth frame", x, () -> x.value(2));
    }

    private static void timesAndCountsOfPairs() {
        Commutator x = new Commutator();
        x.addPoint(2, 0, 1, false);
        x.addPoint(6, 1, 1, true);
        Lines.frames(x, 2);
        x.put(1, 11);
        x.send(4);
        x.put(1, -12);
        x.send(4);
        Lines.takeAll(x);
        Check.due("value of a pair", -12, () -> x.value(1));
        Check.due("time of a pair", 64 * 2 + 42, () -> x.time(1));
        Check.due("samples of a pair", 2, () -> x.samples(1));
        Check.due("samples of the other point", 1, () -> x.samples(0));
        Check.due("time of the other point", 64 * 2 + 16, () -> x.time(0));
        Lines.frames(x, 3);
        x.cut(0, 128);
        Lines.takeAll(x);
        Check.due("samples of a pair over a gap", 4, () -> x.samples(1));
        Check.due("missing of a pair over a gap", 4, () -> x.missing(1));
        Check.due("missing of the other point over a gap", 2, () -> x.missing(0));
        Check.due("time of a pair over a gap", 64 * 5 + 42, () -> x.time(1));
    }

    private static void allCodesAreRead() {
        for (int width = 1; width <= 6; width++) {
            for (int convention = width == 1 ? 3 : 0; convention < 4; convention++) {
                codesAreRead(width, width == 1 ? 0 : convention);
            }
        }
        codeIsRead(12, 0, 4095, 4095);
        codeIsRead(12, 1, 4095, -1);
        codeIsRead(12, 1, 2048, -2048);
        codeIsRead(12, 2, 2048, 0);
        codeIsRead(12, 2, 4095, -2047);
        codeIsRead(12, 3, 0, -2048);
        codeIsRead(12, 3, 4095, 2047);
    }

    private static void codesAreRead(int width, int convention) {
        int half = 1 << width - 1;
        for (int raw = 0; raw < 2 * half; raw++) {
            int[] want = {raw, raw < half ? raw : raw - 2 * half, raw < half ? raw : half - raw, raw - half};
            codeIsRead(width, convention, raw, want[convention]);
        }
    }

    private static void codeIsRead(int width, int convention, int raw, int want) {
        Commutator x = new Commutator();
        x.addPoint(7, 0, 1, false);
        x.addPoint(width, convention, 1, false);
        Lines.frames(x, 3);
        Lines.write(x, 128 + 23, Lines.binary(raw, width));
        x.receive(4096);
        Check.due("the bits " + Lines.binary(raw, width) + " by the convention " + convention, want,
                () -> x.value(1));
        Check.due("the point before them", 0, () -> x.value(0));
    }

    private static void pointsWithoutSamples() {
        Commutator x = new Commutator();
        x.addPoint(12, 0, 1, false);
        x.addPoint(12, 0, 4, false);
        Lines.frames(x, 4);
        Lines.takeAll(x);
        Check.due("value of the point with samples", 0, () -> x.value(0));
        Check.noElement("value of the point without samples", x, () -> x.value(1));
        Check.noElement("time of the point without samples", x, () -> x.time(1));
        Check.due("samples of the point without samples", 0, () -> x.samples(1));
        Check.due("missing of the point without samples", 0, () -> x.missing(1));
        Lines.frames(x, 1);
        Lines.takeAll(x);
        Check.due("value of the point with a sample", 0, () -> x.value(1));
        Check.due("time of the point with a sample", 64 * 4 + 28, () -> x.time(1));
    }

    private static void wrongPoints() {
        Commutator x = counting(5);
        Lines.takeAll(x);
        for (int point : new int[] {Integer.MIN_VALUE, -1, 1, 12, 100, Integer.MAX_VALUE}) {
            Check.noSuchIndex("value(" + point + ")", x, () -> x.value(point));
            Check.noSuchIndex("time(" + point + ")", x, () -> x.time(point));
            Check.noSuchIndex("samples(" + point + ")", x, () -> x.samples(point));
            Check.noSuchIndex("missing(" + point + ")", x, () -> x.missing(point));
        }
        Commutator empty = new Commutator();
        Check.noSuchIndex("value(0) without points", empty, () -> empty.value(0));
        Check.noSuchIndex("time(0) without points", empty, () -> empty.time(0));
        Check.noSuchIndex("samples(0) without points", empty, () -> empty.samples(0));
        Check.noSuchIndex("missing(0) without points", empty, () -> empty.missing(0));
    }
}
