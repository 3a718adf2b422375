import java.util.NoSuchElementException;

/**
 * A telemetry packer and its receiver. The document numbers what it promises; the parts below
 * follow its terms: points get places in a frame, a sender puts the frame's words onto a line,
 * a synchroniser finds the frames again, and a decoder gives the points their samples.
 */
public final class Commutator {
    private static final int SYNC_WORD = 0xB8;
    private static final int WORD_BITS = 8;
    private static final int FRAME_BITS = 64;
    private static final int COUNTER_SHIFT = 48;
    private static final int BYTE_MASK = 255;

    private static final int MOST_POINTS = 12;
    private static final int MOST_WIDTH = 12;
    private static final int MOST_WORDS_IN_ALL = 1000;
    private static final int MOST_WORDS_A_CALL = 64;
    private static final int MOST_BITS_A_CALL = 4096;
    private static final int DERIVED_POINTS = 8;
    private static final int FIRST_DERIVED_OPERAND = 100;

    private static final int SEARCH = 0;
    private static final int CHECK = 1;
    private static final int LOCK = 2;

    private final PointTable table;
    private final Line line;
    private final Sender sender;
    private final Synchroniser synchroniser;
    private final Decoder decoder;
    private final DerivedTable derivedTable;

    public Commutator() {
        table = new PointTable();
        line = new Line();
        sender = new Sender();
        synchroniser = new Synchroniser();
        decoder = new Decoder();
        derivedTable = new DerivedTable();
    }

    // ---- points

    public int addPoint(int width, int convention, int period, boolean twice)
            throws IllegalArgumentException, IllegalStateException {
        if (!isPointAllowed(width, convention, period, twice)) {
            throw new IllegalArgumentException();
        }
        if (sender.wordsSent > 0 || !table.add(width, convention, period, twice)) {
            throw new IllegalStateException();
        }
        return table.count - 1;
    }

    public int points() {
        return table.count;
    }

    public int place(int point) throws IndexOutOfBoundsException {
        Point p = existingPoint(point);
        return 100 * p.phase + p.offset;
    }

    public int spare() {
        return table.spareBits();
    }

    public int put(int point, int value) throws IndexOutOfBoundsException, IllegalArgumentException {
        Point p = existingPoint(point);
        if (value < p.lowest() || value > p.highest()) {
            throw new IllegalArgumentException();
        }
        int before = p.present;
        p.present = value;
        return before;
    }

    // ---- the line

    public int send(int words) throws IllegalArgumentException, IllegalStateException {
        if (words < 1 || words > MOST_WORDS_A_CALL) {
            throw new IllegalArgumentException();
        }
        if (sender.wordsSent + words > MOST_WORDS_IN_ALL) {
            throw new IllegalStateException();
        }
        for (int i = 0; i < words; i++) {
            sender.sendWord(table, line);
        }
        return line.length();
    }

    public int sent() {
        return sender.wordsSent;
    }

    public int onLine() {
        return line.length();
    }

    public int bit(int index) throws IndexOutOfBoundsException {
        if (!line.holds(index, 1)) {
            throw new IndexOutOfBoundsException();
        }
        return line.look(index);
    }

    public int flip(int index) throws IndexOutOfBoundsException {
        if (!line.holds(index, 1)) {
            throw new IndexOutOfBoundsException();
        }
        return line.turnOver(index);
    }

    public int cut(int index, int count) throws IllegalArgumentException, IndexOutOfBoundsException {
        if (count < 1) {
            throw new IllegalArgumentException();
        }
        if (!line.holds(index, count)) {
            throw new IndexOutOfBoundsException();
        }
        line.remove(index, count);
        return line.length();
    }

    public int receive(int bits) throws IllegalArgumentException {
        if (bits < 1 || bits > MOST_BITS_A_CALL) {
            throw new IllegalArgumentException();
        }
        int usedBefore = decoder.usedFrames;
        int count = Math.min(bits, line.length());
        for (int i = 0; i < count; i++) {
            if (synchroniser.take(line.takeFirst())) {
                decoder.decode(synchroniser.latest, table);
            }
        }
        return decoder.usedFrames - usedBefore;
    }

    // ---- the receiver

    public int state() {
        return synchroniser.mode;
    }

    public int taken() {
        return synchroniser.takenBits;
    }

    public int frames() {
        return decoder.usedFrames;
    }

    public int lost() {
        return decoder.lostFrames;
    }

    public int repeats() {
        return decoder.repeatedFrames;
    }

    public int number() throws NoSuchElementException {
        if (decoder.usedFrames == 0) {
            throw new NoSuchElementException();
        }
        return decoder.latestNumber;
    }

    public int value(int point) throws IndexOutOfBoundsException, NoSuchElementException {
        return latestOf(existingPoint(point)).amount;
    }

    public int time(int point) throws IndexOutOfBoundsException, NoSuchElementException {
        return latestOf(existingPoint(point)).moment;
    }

    public int samples(int point) throws IndexOutOfBoundsException {
        return existingPoint(point).sampleCount;
    }

    public int missing(int point) throws IndexOutOfBoundsException {
        return existingPoint(point).missingCount;
    }

    // ---- derived points

    public void derive(int derived, int operation, int first, int second)
            throws IllegalArgumentException, IllegalStateException {
        if (!isDerived(derived) || operation < 0 || operation > 4
                || !isOperand(first) || !isOperand(second)) {
            throw new IllegalArgumentException();
        }
        if (derivedTable.wouldNeedItself(derived, first, second)) {
            throw new IllegalStateException();
        }
        derivedTable.define(derived, operation, first, second);
    }

    public int derivedValue(int derived) throws IllegalArgumentException, NoSuchElementException {
        return resultOf(derived).amount;
    }

    public int derivedTime(int derived) throws IllegalArgumentException, NoSuchElementException {
        return resultOf(derived).moment;
    }

    // ---- the second way

    public int matches(int offset) throws IllegalArgumentException {
        if (offset < 0 || offset >= FRAME_BITS) {
            throw new IllegalArgumentException();
        }
        return synchroniser.syncWordsAt(offset);
    }

    public int bestOffset() {
        int best = 0;
        for (int offset = 1; offset < FRAME_BITS; offset++) {
            if (synchroniser.syncWordsAt(offset) > synchroniser.syncWordsAt(best)) {
                best = offset;
            }
        }
        return best;
    }

    private static boolean isPointAllowed(int width, int convention, int period, boolean twice) {
        if (convention < Point.UNSIGNED || convention > Point.OFFSET_BINARY) {
            return false;
        }
        int leastWidth = convention == Point.UNSIGNED ? 1 : 2;
        if (width < leastWidth || width > MOST_WIDTH) {
            return false;
        }
        return period == 1 || (!twice && (period == 2 || period == 4));
    }

    private static boolean isDerived(int derived) {
        return derived >= 0 && derived < DERIVED_POINTS;
    }

    private static boolean isOperand(int operand) {
        return (operand >= 0 && operand < MOST_POINTS) || isDerived(operand - FIRST_DERIVED_OPERAND);
    }

    private Point existingPoint(int point) {
        Point p = table.at(point);
        if (p == null) {
            throw new IndexOutOfBoundsException();
        }
        return p;
    }

    private static Reading latestOf(Point p) {
        if (!p.latest.known) {
            throw new NoSuchElementException();
        }
        return p.latest;
    }

    private Reading resultOf(int derived) {
        if (!isDerived(derived)) {
            throw new IllegalArgumentException();
        }
        Reading result = derivedTable.compute(derived, table);
        if (result == null || !result.known) {
            throw new NoSuchElementException();
        }
        return result;
    }

    /** A value with its time, once there is one. */
    private static final class Reading {
        private boolean known;
        private int amount;
        private int moment;

        void set(int newAmount, int newMoment) {
            known = true;
            amount = newAmount;
            moment = newMoment;
        }

        void forget() {
            known = false;
        }
    }

    /** A point: how it is sent, where, and what the receiver has of it. */
    private static final class Point {
        private static final int UNSIGNED = 0;
        private static final int TWOS_COMPLEMENT = 1;
        private static final int SIGN_AND_MAGNITUDE = 2;
        private static final int OFFSET_BINARY = 3;

        private static final int FIRST_POINT_BIT = 16;
        private static final int HALF_BITS = 24;

        private final int width;
        private final int convention;
        private final int period;
        private final boolean twice;
        private final int phase;
        private final int offset;
        private int present;
        private final Reading latest;
        private int sampleCount;
        private int missingCount;

        Point(int width, int convention, int period, boolean twice, int phase, int offset) {
            this.width = width;
            this.convention = convention;
            this.period = period;
            this.twice = twice;
            this.phase = phase;
            this.offset = offset;
            this.latest = new Reading();
        }

        int lowest() {
            switch (convention) {
                case UNSIGNED:
                    return 0;
                case SIGN_AND_MAGNITUDE:
                    return 1 - signWeight();
                default:
                    return -signWeight();
            }
        }

        int highest() {
            return convention == UNSIGNED ? (1 << width) - 1 : signWeight() - 1;
        }

        int encode(int v) {
            switch (convention) {
                case TWOS_COMPLEMENT:
                    return v < 0 ? v + (1 << width) : v;
                case SIGN_AND_MAGNITUDE:
                    return v < 0 ? signWeight() - v : v;
                case OFFSET_BINARY:
                    return v + signWeight();
                default:
                    return v;
            }
        }

        int decode(int raw) {
            boolean highestBit = raw >= signWeight();
            switch (convention) {
                case TWOS_COMPLEMENT:
                    return highestBit ? raw - (1 << width) : raw;
                case SIGN_AND_MAGNITUDE:
                    return highestBit ? signWeight() - raw : raw;
                case OFFSET_BINARY:
                    return raw - signWeight();
                default:
                    return raw;
            }
        }

        private int signWeight() {
            return 1 << (width - 1);
        }

        boolean isSentIn(int counter) {
            // the period is a power of two, so its mask gives the remainder
            return (counter & (period - 1)) == phase;
        }

        int samplesInFrame() {
            return twice ? 2 : 1;
        }

        int firstBit(int sample) {
            return FIRST_POINT_BIT + offset + sample * HALF_BITS;
        }

        /** How far the last bit of a sample is from the last bit of the frame. */
        int shift(int sample) {
            return FRAME_BITS - firstBit(sample) - width;
        }

        void readFrom(long frame, int frameNumber) {
            for (int sample = 0; sample < samplesInFrame(); sample++) {
                int raw = (int) (frame >>> shift(sample)) & ((1 << width) - 1);
                latest.set(decode(raw), FRAME_BITS * frameNumber + firstBit(sample));
                sampleCount++;
            }
        }

        void noteMissing() {
            missingCount += samplesInFrame();
        }
    }

    /** The points and the bits that they use in the frames. */
    private static final class PointTable {
        private static final int PATTERNS = 4;
        private static final int POINT_BITS = 48;

        private final Point[] rows = new Point[MOST_POINTS];
        private int count;
        // The frames differ only by the remainder of their counter by 4; bit n of such a mask
        // stands for the offset n.
        private final long[] usedBits = new long[PATTERNS];

        Point at(int point) {
            return point >= 0 && point < count ? rows[point] : null;
        }

        boolean add(int width, int convention, int period, boolean twice) {
            if (count >= MOST_POINTS) {
                return false;
            }
            int lastOffset = (twice ? Point.HALF_BITS : POINT_BITS) - width;
            for (int phase = 0; phase < period; phase++) {
                for (int offset = 0; offset <= lastOffset; offset++) {
                    long bits = bitsAt(offset, width, twice);
                    if (isFree(bits, period, phase)) {
                        use(bits, period, phase);
                        rows[count] = new Point(width, convention, period, twice, phase, offset);
                        count++;
                        return true;
                    }
                }
            }
            return false;
        }

        private static long bitsAt(int offset, int width, boolean twice) {
            long once = ((1L << width) - 1) << offset;
            return twice ? once | (once << Point.HALF_BITS) : once;
        }

        private boolean isFree(long bits, int period, int phase) {
            for (int r = 0; r < PATTERNS; r++) {
                if ((r & (period - 1)) == phase && (usedBits[r] & bits) != 0) {
                    return false;
                }
            }
            return true;
        }

        private void use(long bits, int period, int phase) {
            for (int r = 0; r < PATTERNS; r++) {
                if ((r & (period - 1)) == phase) {
                    usedBits[r] |= bits;
                }
            }
        }

        int spareBits() {
            int left = PATTERNS * POINT_BITS;
            for (int r = 0; r < PATTERNS; r++) {
                left -= Long.bitCount(usedBits[r]);
            }
            return left;
        }
    }

    /** The bits that were sent and neither taken nor cut out. */
    private static final class Line {
        private final int[] bits = new int[MOST_WORDS_IN_ALL * WORD_BITS];
        private int head;
        private int end;

        int length() {
            return end - head;
        }

        boolean holds(int index, int count) {
            return index >= 0 && index < length() && count <= length() - index;
        }

        void append(int newBit) {
            if (end < bits.length) {
                bits[end] = newBit;
                end++;
            }
        }

        int look(int index) {
            return holds(index, 1) ? bits[head + index] : 0;
        }

        int turnOver(int index) {
            if (!holds(index, 1)) {
                return 0;
            }
            bits[head + index] ^= 1;
            return bits[head + index];
        }

        void remove(int index, int count) {
            if (count < 1 || !holds(index, count)) {
                return;
            }
            int from = head + index + count;
            System.arraycopy(bits, from, bits, head + index, end - from);
            end -= count;
        }

        int takeFirst() {
            if (!holds(0, 1)) {
                return 0;
            }
            int first = bits[head];
            head++;
            return first;
        }
    }

    /** Packs the points into frames and sends these word by word. */
    private static final class Sender {
        private static final int FRAME_WORDS = 8;

        private int wordsSent;
        // Bit 0 of the frame is the highest bit here, bit 63 the lowest.
        private long frame;

        void sendWord(PointTable table, Line line) {
            int word = wordsSent % FRAME_WORDS;
            int counter = (wordsSent / FRAME_WORDS) & BYTE_MASK;
            if (word == 0) {
                frame = (long) ((SYNC_WORD << WORD_BITS) | counter) << COUNTER_SHIFT;
            }
            packSamples(table, counter, word);
            for (int i = 1; i <= WORD_BITS; i++) {
                int shift = FRAME_BITS - word * WORD_BITS - i;
                line.append((int) (frame >>> shift) & 1);
            }
            wordsSent++;
        }

        /** A sample is packed whole with its first word, so later puts leave its other words as they are. */
        private void packSamples(PointTable table, int counter, int word) {
            for (int i = 0; i < table.count; i++) {
                Point p = table.at(i);
                if (p == null || !p.isSentIn(counter)) {
                    continue;
                }
                for (int sample = 0; sample < p.samplesInFrame(); sample++) {
                    if (p.firstBit(sample) / WORD_BITS == word) {
                        frame |= (long) p.encode(p.present) << p.shift(sample);
                    }
                }
            }
        }
    }

    /** Takes the bits one by one and finds where the frames begin. */
    private static final class Synchroniser {
        private static final int MATCHES_FOR_LOCK = 3;
        private static final int MISSES_FOR_SEARCH = 2;

        private int mode = SEARCH;
        private int takenBits;
        // The last 64 bits that were taken, the latest lowest: when a frame is complete, it is this.
        private long latest;
        private int bitsOfFrame;
        private int matchCount;
        private int missCount;
        private final int[] syncWords = new int[FRAME_BITS];

        /** Returns whether a frame is complete with this bit that is to be decoded. */
        boolean take(int newBit) {
            latest = (latest << 1) | newBit;
            takenBits++;
            if (isSyncWord()) {
                // the sync word begins 8 bits back: as its highest bit is 1, all 8 were taken
                syncWords[(takenBits - WORD_BITS) & (FRAME_BITS - 1)]++;
            }
            if (mode == SEARCH) {
                search();
                return false;
            }
            bitsOfFrame++;
            if (bitsOfFrame == WORD_BITS) {
                judgeSyncWord();
            }
            if (bitsOfFrame < FRAME_BITS) {
                return false;
            }
            bitsOfFrame = 0;
            return mode == LOCK;
        }

        int syncWordsAt(int offset) {
            return offset >= 0 && offset < syncWords.length ? syncWords[offset] : 0;
        }

        private int latestWord() {
            return (int) latest & BYTE_MASK;
        }

        private boolean isSyncWord() {
            return latestWord() == SYNC_WORD;
        }

        private void search() {
            if (isSyncWord()) {
                mode = CHECK;
                matchCount = 1;
                bitsOfFrame = WORD_BITS;
            }
        }

        private void judgeSyncWord() {
            if (mode == CHECK) {
                check();
            } else {
                keepLock();
            }
        }

        private void check() {
            if (!isSyncWord()) {
                mode = SEARCH;
                return;
            }
            matchCount++;
            if (matchCount == MATCHES_FOR_LOCK) {
                mode = LOCK;
                missCount = 0;
            }
        }

        private void keepLock() {
            if (Integer.bitCount(latestWord() ^ SYNC_WORD) <= 1) {
                missCount = 0;
                return;
            }
            missCount++;
            if (missCount == MISSES_FOR_SEARCH) {
                mode = SEARCH;
            }
        }
    }

    /** Tells gaps and repeats by the counters of the frames and gives the points their samples. */
    private static final class Decoder {
        private int usedFrames;
        private int lostFrames;
        private int repeatedFrames;
        private int latestCounter;
        private int latestNumber;

        void decode(long frame, PointTable table) {
            int counter = (int) (frame >>> COUNTER_SHIFT) & BYTE_MASK;
            if (usedFrames == 0) {
                latestNumber = counter;
            } else {
                int step = (counter - latestCounter) & BYTE_MASK;
                if (step == 0) {
                    repeatedFrames++;
                    return;
                }
                noteLost(step - 1, table);
                latestNumber += step;
            }
            latestCounter = counter;
            usedFrames++;
            giveSamples(frame, table);
        }

        private void noteLost(int gap, PointTable table) {
            lostFrames += gap;
            for (int i = 1; i <= gap; i++) {
                for (int n = 0; n < table.count; n++) {
                    Point p = table.at(n);
                    if (p != null && p.isSentIn((latestCounter + i) & BYTE_MASK)) {
                        p.noteMissing();
                    }
                }
            }
        }

        private void giveSamples(long frame, PointTable table) {
            for (int n = 0; n < table.count; n++) {
                Point p = table.at(n);
                if (p != null && p.isSentIn(latestCounter)) {
                    p.readFrom(frame, latestNumber);
                }
            }
        }
    }

    /** What one derived point is made of, and its result when it was computed last. */
    private static final class Derived {
        private static final int LIMIT = 1000000;

        private boolean defined;
        private int operation;
        private int first;
        private int second;
        private final Reading result = new Reading();

        void combine(Reading a, Reading b) {
            int amount = (int) Math.max(-LIMIT, Math.min(LIMIT, operate(a.amount, b.amount)));
            result.set(amount, Math.max(a.moment, b.moment));
        }

        private long operate(long a, long b) {
            switch (operation) {
                case 0:
                    return a + b;
                case 1:
                    return a - b;
                case 2:
                    return a * b;
                case 3:
                    return Math.max(a, b);
                default:
                    return Math.min(a, b);
            }
        }
    }

    /** The derived points; none of them ever needs itself. */
    private static final class DerivedTable {
        private final Derived[] rows = new Derived[DERIVED_POINTS];

        DerivedTable() {
            for (int i = 0; i < rows.length; i++) {
                rows[i] = new Derived();
            }
        }

        void define(int derived, int operation, int first, int second) {
            Derived d = at(derived);
            if (d == null) {
                return;
            }
            d.defined = true;
            d.operation = operation;
            d.first = first;
            d.second = second;
        }

        boolean wouldNeedItself(int derived, int first, int second) {
            int needed = operandMask(first) | operandMask(second);
            // a chain of needs is at most as long as there are derived points
            for (int pass = 0; pass < rows.length; pass++) {
                needed |= needsOf(needed);
            }
            return ((needed >> derived) & 1) != 0;
        }

        private int needsOf(int mask) {
            int needs = 0;
            for (int i = 0; i < rows.length; i++) {
                Derived d = rows[i];
                if (d != null && d.defined && ((mask >> i) & 1) != 0) {
                    needs |= operandMask(d.first) | operandMask(d.second);
                }
            }
            return needs;
        }

        private static int operandMask(int operand) {
            return operand >= FIRST_DERIVED_OPERAND ? 1 << (operand - FIRST_DERIVED_OPERAND) : 0;
        }

        /** Computes them all, each as soon as its operands are known, and returns the asked one. */
        Reading compute(int derived, PointTable table) {
            for (int i = 0; i < rows.length; i++) {
                if (rows[i] != null) {
                    rows[i].result.forget();
                }
            }
            for (int pass = 0; pass < rows.length; pass++) {
                for (int i = 0; i < rows.length; i++) {
                    computeOne(rows[i], table);
                }
            }
            Derived asked = at(derived);
            return asked == null ? null : asked.result;
        }

        private void computeOne(Derived d, PointTable table) {
            if (d == null || !d.defined || d.result.known) {
                return;
            }
            Reading a = operand(d.first, table);
            Reading b = operand(d.second, table);
            if (a != null && b != null && a.known && b.known) {
                d.combine(a, b);
            }
        }

        private Reading operand(int operand, PointTable table) {
            if (operand >= FIRST_DERIVED_OPERAND) {
                Derived d = at(operand - FIRST_DERIVED_OPERAND);
                return d == null ? null : d.result;
            }
            Point p = table.at(operand);
            return p == null ? null : p.latest;
        }

        private Derived at(int derived) {
            return derived >= 0 && derived < rows.length ? rows[derived] : null;
        }
    }
}
