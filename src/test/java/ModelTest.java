/** Long runs of calls whose answers are compared with those of the model, the same runs each time. */
public final class ModelTest {
    private static final int RUNS = 600;
    private static final int CALLS = 512;

    private final Numbers numbers;
    private final Commutator x = new Commutator();
    private final Model m = new Model();
    private final int damage;
    private final int run;

    private ModelTest(int run) {
        this.run = run;
        this.numbers = new Numbers(run);
        this.damage = run % 4;
    }

    /** A plain row of numbers that look without order. */
    private static final class Numbers {
        private long seed;

        Numbers(int run) {
            seed = run * 7919L + 17;
        }

        int below(int bound) {
            seed = seed * 6364136223846793005L + 1442695040888963407L;
            return (int) ((seed >>> 33) % bound);
        }

        int from(int least, int most) {
            return least + below(most - least + 1);
        }
    }

    public static void main(String[] args) {
        for (int run = 0; run < RUNS; run++) {
            new ModelTest(run).go();
        }
        Check.end("ModelTest");
    }

    private void go() {
        int points = numbers.below(14);
        for (int i = 0; i < points; i++) {
            addPoint();
        }
        for (int i = points; i < CALLS; i++) {
            step();
        }
        compareAll();
    }

    private void step() {
        int kind = numbers.below(100);
        if (kind < 16) {
            send();
        } else if (kind < 34) {
            receive();
        } else if (kind < 46) {
            put();
        } else if (kind < 58) {
            harm();
        } else if (kind < 64) {
            derive();
        } else if (kind < 66) {
            addPoint();
        } else {
            read();
        }
    }

    private void compare(String call, Check.Call want, Check.Call got) {
        Check.same("run " + run + ": " + call, Check.told(want), Check.told(got));
    }

    private void addPoint() {
        boolean wrong = numbers.below(8) == 0;
        int width = wrong ? numbers.from(-1, 14) : numbers.from(2, run % 3 == 0 ? 12 : 6);
        int convention = wrong ? numbers.from(-1, 4) : numbers.below(4);
        int period = wrong ? numbers.from(-1, 5) : 1 << numbers.below(3);
        boolean twice = (wrong || period == 1) && numbers.below(3) == 0;
        compare("addPoint(" + width + ", " + convention + ", " + period + ", " + twice + ")",
                () -> m.addPoint(width, convention, period, twice),
                () -> x.addPoint(width, convention, period, twice));
    }

    private void put() {
        int point = pointNumber();
        int size = 1 << numbers.from(1, 12);
        int value = numbers.from(-size, size);
        compare("put(" + point + ", " + value + ")", () -> m.put(point, value), () -> x.put(point, value));
    }

    private int pointNumber() {
        return numbers.below(10) == 0 ? numbers.from(-1, 13) : numbers.below(m.points() + 1);
    }

    private void send() {
        int words = numbers.below(12) == 0 ? numbers.from(-1, 70) : numbers.from(1, 24);
        compare("send(" + words + ")", () -> m.send(words), () -> x.send(words));
    }

    private void receive() {
        int bits = numbers.below(12) == 0 ? numbers.from(-1, 4100) : numbers.from(1, 200);
        compare("receive(" + bits + ")", () -> m.receive(bits), () -> x.receive(bits));
    }

    /** The line is left whole, or bits are turned over, or cut out, or both. */
    private void harm() {
        int index = numbers.from(-1, m.onLine());
        if (damage % 2 == 1 && numbers.below(3) > 0) {
            if (numbers.below(4) == 0) {
                flip(headOfAFrame(index));
            }
            flip(index);
        } else if (damage >= 2 && numbers.below(3) == 0) {
            int whole = numbers.below(2) == 0 ? 64 : 1;
            int count = whole * numbers.from(numbers.below(9) == 0 ? -1 : 1, 3);
            compare("cut(" + index + ", " + count + ")", () -> m.cut(index, count), () -> x.cut(index, count));
        } else {
            compare("bit(" + index + ")", () -> m.bit(index), () -> x.bit(index));
        }
    }

    /** A bit of a sync word or a counter, when nothing was cut out. */
    private int headOfAFrame(int index) {
        int bit = m.taken() + index;
        return index - bit % 64 + numbers.below(16);
    }

    private void flip(int index) {
        compare("flip(" + index + ")", () -> m.flip(index), () -> x.flip(index));
    }

    private void derive() {
        int derived = numbers.below(12) == 0 ? numbers.from(-1, 9) : numbers.below(8);
        int operation = numbers.below(12) == 0 ? numbers.from(-1, 6) : numbers.below(5);
        int first = operand();
        int second = operand();
        compare("derive(" + derived + ", " + operation + ", " + first + ", " + second + ")",
                () -> m.derive(derived, operation, first, second),
                () -> {
                    x.derive(derived, operation, first, second);
                    return 0;
                });
    }

    private int operand() {
        if (numbers.below(16) == 0) {
            return numbers.from(-2, 110);
        }
        return numbers.below(2) == 0 ? numbers.below(m.points() + 1) : 100 + numbers.below(8);
    }

    private void read() {
        int point = pointNumber();
        int derived = numbers.below(12) == 0 ? numbers.from(-1, 9) : numbers.below(8);
        int offset = numbers.from(-1, 64);
        switch (numbers.below(10)) {
            case 0:
                compare("value(" + point + ")", () -> m.value(point), () -> x.value(point));
                break;
            case 1:
                compare("time(" + point + ")", () -> m.time(point), () -> x.time(point));
                break;
            case 2:
                compare("samples(" + point + ")", () -> m.samples(point), () -> x.samples(point));
                break;
            case 3:
                compare("missing(" + point + ")", () -> m.missing(point), () -> x.missing(point));
                break;
            case 4:
                compare("derivedValue(" + derived + ")", () -> m.derivedValue(derived),
                        () -> x.derivedValue(derived));
                break;
            case 5:
                compare("derivedTime(" + derived + ")", () -> m.derivedTime(derived),
                        () -> x.derivedTime(derived));
                break;
            case 6:
                compare("matches(" + offset + ")", () -> m.matches(offset), () -> x.matches(offset));
                break;
            case 7:
                compare("place(" + point + ")", () -> m.place(point), () -> x.place(point));
                break;
            default:
                compareCounts();
        }
    }

    private void compareCounts() {
        compare("state()", () -> m.state(), () -> x.state());
        compare("frames()", () -> m.frames(), () -> x.frames());
        compare("lost()", () -> m.lost(), () -> x.lost());
        compare("repeats()", () -> m.repeats(), () -> x.repeats());
        compare("number()", () -> m.number(), () -> x.number());
        compare("taken()", () -> m.taken(), () -> x.taken());
        compare("sent()", () -> m.sent(), () -> x.sent());
        compare("onLine()", () -> m.onLine(), () -> x.onLine());
        compare("points()", () -> m.points(), () -> x.points());
    }

    private void compareAll() {
        compareCounts();
        compare("spare()", () -> m.spare(), () -> x.spare());
        compare("bestOffset()", () -> m.bestOffset(), () -> x.bestOffset());
        for (int i = 0; i < 12; i++) {
            int n = i;
            compare("place(" + n + ") at last", () -> m.place(n), () -> x.place(n));
            compare("value(" + n + ") at last", () -> m.value(n), () -> x.value(n));
            compare("time(" + n + ") at last", () -> m.time(n), () -> x.time(n));
            compare("samples(" + n + ") at last", () -> m.samples(n), () -> x.samples(n));
            compare("missing(" + n + ") at last", () -> m.missing(n), () -> x.missing(n));
        }
        for (int i = 0; i < 8; i++) {
            int n = i;
            compare("derivedValue(" + n + ") at last", () -> m.derivedValue(n), () -> x.derivedValue(n));
            compare("derivedTime(" + n + ") at last", () -> m.derivedTime(n), () -> x.derivedTime(n));
        }
        for (int i = 0; i < 64; i++) {
            int n = i;
            compare("matches(" + n + ") at last", () -> m.matches(n), () -> x.matches(n));
        }
        for (int i = 0; i <= m.onLine(); i++) {
            int n = i;
            compare("bit(" + n + ") at last", () -> m.bit(n), () -> x.bit(n));
        }
    }
}
