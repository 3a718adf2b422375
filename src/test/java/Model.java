import java.util.ArrayList;
import java.util.List;
import java.util.NoSuchElementException;

/** The document read word by word, with texts of bits and no thought of speed. */
final class Model {
    private static final String SYNC = "10111000";

    private static final class Point {
        int width;
        int convention;
        int period;
        boolean twice;
        int phase;
        int offset;
        int present;
        List<int[]> samples = new ArrayList<>();
        int missing;

        List<Integer> firstBits() {
            return twice ? List.of(16 + offset, 40 + offset) : List.of(16 + offset);
        }

        boolean sentIn(int counter) {
            return counter % period == phase;
        }
    }

    private final List<Point> points = new ArrayList<>();
    private final int[][] derived = new int[8][];
    private int sent;
    private char[] frame = new char[64];
    private String line = "";
    private String taken = "";
    private int state;
    private int matches;
    private int misses;
    private int frameStart = -1;
    private boolean wasLocked;
    private int used;
    private int lost;
    private int repeats;
    private int lastCounter = -1;
    private int number;

    int addPoint(int width, int convention, int period, boolean twice) {
        if (convention < 0 || convention > 3 || width < (convention == 0 ? 1 : 2) || width > 12
                || period != 1 && period != 2 && period != 4 || twice && period != 1) {
            throw new IllegalArgumentException();
        }
        if (points.size() == 12 || sent > 0) {
            throw new IllegalStateException();
        }
        for (int place = 0; place < 400; place++) {
            Point p = new Point();
            p.width = width;
            p.convention = convention;
            p.period = period;
            p.twice = twice;
            p.phase = place / 100;
            p.offset = place % 100;
            if (p.phase < period && fits(p)) {
                points.add(p);
                return points.size() - 1;
            }
        }
        throw new IllegalStateException();
    }

    private boolean fits(Point p) {
        if (p.offset + p.width > (p.twice ? 24 : 48)) {
            return false;
        }
        for (int counter = 0; counter < 256; counter++) {
            boolean[] cells = usedCells(counter);
            for (int first : p.firstBits()) {
                for (int i = 0; i < p.width; i++) {
                    if (p.sentIn(counter) && cells[first + i]) {
                        return false;
                    }
                }
            }
        }
        return true;
    }

    private boolean[] usedCells(int counter) {
        boolean[] cells = new boolean[64];
        for (Point p : points) {
            for (int first : p.firstBits()) {
                for (int i = 0; i < p.width; i++) {
                    cells[first + i] |= p.sentIn(counter);
                }
            }
        }
        return cells;
    }

    int points() {
        return points.size();
    }

    private Point point(int number) {
        if (number < 0 || number >= points.size()) {
            throw new IndexOutOfBoundsException();
        }
        return points.get(number);
    }

    int place(int number) {
        return 100 * point(number).phase + point(number).offset;
    }

    int spare() {
        int free = 0;
        for (int counter = 4; counter < 8; counter++) {
            boolean[] cells = usedCells(counter);
            for (int i = 16; i < 64; i++) {
                free += cells[i] ? 0 : 1;
            }
        }
        return free;
    }

    int put(int number, int value) {
        Point p = point(number);
        if (value < -5000 || value > 5000 || code(p, value) == null) {
            throw new IllegalArgumentException();
        }
        int before = p.present;
        p.present = value;
        return before;
    }

    /** The bits of a value, or null if it has none. */
    private static String code(Point p, int value) {
        for (int raw = 0; raw < 1 << p.width; raw++) {
            String bits = Lines.binary(raw, p.width);
            boolean minusZero = p.convention == 2 && raw == 1 << p.width - 1;
            if (!minusZero && read(p.convention, bits) == value) {
                return bits;
            }
        }
        return null;
    }

    private static int read(int convention, String bits) {
        int all = Integer.parseInt(bits, 2);
        int rest = bits.length() == 1 ? 0 : Integer.parseInt(bits.substring(1), 2);
        int half = 1 << bits.length() - 1;
        boolean one = bits.charAt(0) == '1';
        switch (convention) {
            case 0:
                return all;
            case 1:
                return one ? rest - half : rest;
            case 2:
                return one ? -rest : rest;
            default:
                return all - half;
        }
    }

    int send(int words) {
        if (words < 1 || words > 64) {
            throw new IllegalArgumentException();
        }
        if (sent + words > 1000) {
            throw new IllegalStateException();
        }
        for (int i = 0; i < words; i++) {
            sendWord();
        }
        return line.length();
    }

    private void sendWord() {
        int word = sent % 8;
        int counter = sent / 8 % 256;
        if (word == 0) {
            frame = Lines.frame(counter, "").toCharArray();
        }
        for (Point p : points) {
            for (int first : p.firstBits()) {
                if (p.sentIn(counter) && first >= 8 * word && first < 8 * word + 8) {
                    code(p, p.present).getChars(0, p.width, frame, first);
                }
            }
        }
        line += new String(frame, 8 * word, 8);
        sent++;
    }

    int sent() {
        return sent;
    }

    int onLine() {
        return line.length();
    }

    int bit(int index) {
        if (index < 0 || index >= line.length()) {
            throw new IndexOutOfBoundsException();
        }
        return line.charAt(index) - '0';
    }

    int flip(int index) {
        int turned = 1 - bit(index);
        line = line.substring(0, index) + turned + line.substring(index + 1);
        return turned;
    }

    int cut(int index, int count) {
        if (count < 1) {
            throw new IllegalArgumentException();
        }
        if (index < 0 || (long) index + count > line.length()) {
            throw new IndexOutOfBoundsException();
        }
        line = line.substring(0, index) + line.substring(index + count);
        return line.length();
    }

    int receive(int bits) {
        if (bits < 1 || bits > 4096) {
            throw new IllegalArgumentException();
        }
        int before = used;
        int count = Math.min(bits, line.length());
        for (int i = 0; i < count; i++) {
            taken += line.charAt(i);
            look();
        }
        line = line.substring(count);
        return used - before;
    }

    /** frameStart is the number of the first bit of the frame that has begun or begins next. */
    private void look() {
        int n = taken.length();
        if (state == 0) {
            if (taken.endsWith(SYNC)) {
                state = 1;
                matches = 1;
                wasLocked = false;
                frameStart = n - 8;
            }
            return;
        }
        if (n == frameStart + 8) {
            judge(taken.substring(frameStart));
            wasLocked = state == 2;
        }
        if (n == frameStart + 64) {
            if (state != 0 && wasLocked) {
                decode(taken.substring(frameStart));
            }
            frameStart = n;
        }
    }

    private void judge(String word) {
        int differ = 0;
        for (int i = 0; i < 8; i++) {
            differ += word.charAt(i) == SYNC.charAt(i) ? 0 : 1;
        }
        if (state == 1) {
            matches++;
            state = differ > 0 ? 0 : matches == 3 ? 2 : 1;
            misses = 0;
        } else {
            misses = differ <= 1 ? 0 : misses + 1;
            state = misses == 2 ? 0 : 2;
        }
    }

    private void decode(String bits) {
        int counter = Integer.parseInt(bits.substring(8, 16), 2);
        if (counter == lastCounter) {
            repeats++;
            return;
        }
        if (lastCounter < 0) {
            number = counter;
        } else {
            int c = (lastCounter + 1) % 256;
            number++;
            while (c != counter) {
                lost++;
                number++;
                for (Point p : points) {
                    p.missing += p.sentIn(c) ? p.firstBits().size() : 0;
                }
                c = (c + 1) % 256;
            }
        }
        lastCounter = counter;
        used++;
        for (int i = 16; i < 64; i++) {
            for (Point p : points) {
                if (p.sentIn(counter) && p.firstBits().contains(i)) {
                    p.samples.add(new int[] {read(p.convention, bits.substring(i, i + p.width)),
                        64 * number + i});
                }
            }
        }
    }

    int state() {
        return state;
    }

    int taken() {
        return taken.length();
    }

    int frames() {
        return used;
    }

    int lost() {
        return lost;
    }

    int repeats() {
        return repeats;
    }

    int number() {
        if (used == 0) {
            throw new NoSuchElementException();
        }
        return number;
    }

    private int[] last(int number) {
        List<int[]> all = point(number).samples;
        if (all.isEmpty()) {
            throw new NoSuchElementException();
        }
        return all.get(all.size() - 1);
    }

    int value(int number) {
        return last(number)[0];
    }

    int time(int number) {
        return last(number)[1];
    }

    int samples(int number) {
        return point(number).samples.size();
    }

    int missing(int number) {
        return point(number).missing;
    }

    int derive(int number, int operation, int first, int second) {
        if (number < 0 || number > 7 || operation < 0 || operation > 4
                || !operand(first) || !operand(second)) {
            throw new IllegalArgumentException();
        }
        if (reaches(first, 100 + number) || reaches(second, 100 + number)) {
            throw new IllegalStateException();
        }
        derived[number] = new int[] {operation, first, second};
        return 0;
    }

    private static boolean operand(int n) {
        return n >= 0 && n < 12 || n >= 100 && n < 108;
    }

    private boolean reaches(int operand, int wanted) {
        if (operand == wanted) {
            return true;
        }
        int[] d = operand < 100 ? null : derived[operand - 100];
        return d != null && (reaches(d[1], wanted) || reaches(d[2], wanted));
    }

    private int[] reading(int operand) {
        if (operand < 100) {
            if (operand >= points.size()) {
                throw new NoSuchElementException();
            }
            return last(operand);
        }
        return derivedReading(operand - 100);
    }

    private int[] derivedReading(int number) {
        if (number < 0 || number > 7) {
            throw new IllegalArgumentException();
        }
        int[] d = derived[number];
        if (d == null) {
            throw new NoSuchElementException();
        }
        long a = reading(d[1])[0];
        long b = reading(d[2])[0];
        long[] made = {a + b, a - b, a * b, a > b ? a : b, a < b ? a : b};
        long kept = Math.min(1000000, Math.max(-1000000, made[d[0]]));
        return new int[] {(int) kept, Math.max(reading(d[1])[1], reading(d[2])[1])};
    }

    int derivedValue(int number) {
        return derivedReading(number)[0];
    }

    int derivedTime(int number) {
        return derivedReading(number)[1];
    }

    int matches(int offset) {
        if (offset < 0 || offset > 63) {
            throw new IllegalArgumentException();
        }
        int found = 0;
        for (int n = offset; n + 8 <= taken.length(); n += 64) {
            found += taken.substring(n, n + 8).equals(SYNC) ? 1 : 0;
        }
        return found;
    }

    int bestOffset() {
        int best = 0;
        for (int offset = 63; offset >= 0; offset--) {
            best = matches(offset) >= matches(best) ? offset : best;
        }
        return best;
    }
}
