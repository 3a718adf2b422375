/** Promises 24 to 26: derive, derivedValue, derivedTime. */
public final class DerivedTest {
    public static void main(String[] args) {
        operations();
        valuesAreKeptInRange();
        everyStepIsKeptInRange();
        timesAreTheLater();
        chains();
        longChainsInAnyOrder();
        nothingWithoutOperands();
        setAgain();
        loops();
        wrongArguments();
        Check.end("DerivedTest");
    }

    /** Two points with these values, received in the frame 2. */
    private static Commutator received(int a, int b) {
        Commutator x = new Commutator();
        x.addPoint(12, 1, 1, false);
        x.addPoint(12, 1, 1, false);
        x.put(0, a);
        x.put(1, b);
        Lines.frames(x, 3);
        Lines.takeAll(x);
        return x;
    }

    private static void operations() {
        Commutator x = received(7, -11);
        int[] want = {-4, 18, -77, 7, -11};
        for (int operation = 0; operation < 5; operation++) {
            int o = operation;
            x.derive(3, o, 0, 1);
            Check.due("operation " + o + " of 7 and -11", want[o], () -> x.derivedValue(3));
        }
        int[] turned = {-4, -18, -77, 7, -11};
        for (int operation = 0; operation < 5; operation++) {
            int o = operation;
            x.derive(3, o, 1, 0);
            Check.due("operation " + o + " of -11 and 7", turned[o], () -> x.derivedValue(3));
        }
        x.derive(4, 2, 0, 0);
        Check.due("the product of a point with itself", 49, () -> x.derivedValue(4));
    }

    private static void valuesAreKeptInRange() {
        Commutator x = received(1000, -1000);
        x.derive(0, 2, 0, 0);
        x.derive(1, 2, 0, 1);
        Check.due("1000 times 1000", 1000000, () -> x.derivedValue(0));
        Check.due("1000 times -1000", -1000000, () -> x.derivedValue(1));
        Commutator y = received(1001, -1001);
        y.derive(0, 2, 0, 0);
        y.derive(1, 2, 0, 1);
        y.derive(2, 0, 100, 0);
        y.derive(3, 1, 101, 0);
        Check.due("1001 times 1001", 1000000, () -> y.derivedValue(0));
        Check.due("1001 times -1001", -1000000, () -> y.derivedValue(1));
        Check.due("1000000 and 1001", 1000000, () -> y.derivedValue(2));
        Check.due("-1000000 less 1001", -1000000, () -> y.derivedValue(3));
    }

    private static void everyStepIsKeptInRange() {
        Commutator x = received(2047, -2048);
        x.derive(0, 2, 0, 0);
        x.derive(1, 2, 100, 100);
        x.derive(2, 2, 100, 1);
        x.derive(3, 2, 101, 102);
        x.derive(4, 0, 100, 1);
        Check.due("a product beyond the ints", 1000000, () -> x.derivedValue(1));
        Check.due("a product below the ints", -1000000, () -> x.derivedValue(3));
        Check.due("a sum with what was kept in range", 997952, () -> x.derivedValue(4));
    }

    private static void timesAreTheLater() {
        Commutator x = new Commutator();
        x.addPoint(8, 0, 1, false);
        x.addPoint(8, 0, 2, false);
        x.addPoint(8, 0, 4, false);
        x.put(0, 10);
        x.put(1, 20);
        x.put(2, 30);
        Lines.frames(x, 6);
        Lines.takeAll(x);
        x.derive(0, 0, 0, 1);
        x.derive(1, 0, 1, 2);
        x.derive(2, 4, 2, 1);
        x.derive(3, 3, 101, 0);
        Check.due("time of the points 0 and 1", 64 * 5 + 16, () -> x.derivedTime(0));
        Check.due("time of the points 1 and 2", 64 * 4 + 32, () -> x.derivedTime(1));
        Check.due("time of the points 2 and 1", 64 * 4 + 32, () -> x.derivedTime(2));
        Check.due("time of a derived point and the point 0", 64 * 5 + 16, () -> x.derivedTime(3));
        Lines.frames(x, 1);
        Lines.takeAll(x);
        Check.due("time of the points 0 and 1 after a frame", 64 * 6 + 24, () -> x.derivedTime(0));
    }

    private static void chains() {
        Commutator x = received(3, 5);
        x.derive(7, 0, 0, 1);
        x.derive(0, 2, 107, 1);
        x.derive(4, 1, 100, 107);
        Check.due("3 + 5", 8, () -> x.derivedValue(7));
        Check.due("(3 + 5) * 5", 40, () -> x.derivedValue(0));
        Check.due("(3 + 5) * 5 - (3 + 5)", 32, () -> x.derivedValue(4));
        x.put(0, 100);
        Lines.frames(x, 1);
        Check.due("the same before the frame is taken", 32, () -> x.derivedValue(4));
        Lines.takeAll(x);
        Check.due("(100 + 5) * 5 - (100 + 5)", 420, () -> x.derivedValue(4));
        x.derive(7, 1, 0, 1);
        Check.due("(100 - 5) * 5 - (100 - 5)", 380, () -> x.derivedValue(4));
    }

    private static void longChainsInAnyOrder() {
        Commutator up = received(1, 1);
        up.derive(0, 0, 0, 1);
        for (int i = 1; i < 8; i++) {
            up.derive(i, 0, 100 + i - 1, 100 + i - 1);
        }
        Commutator down = received(1, 1);
        for (int i = 0; i < 7; i++) {
            down.derive(i, 0, 100 + i + 1, 100 + i + 1);
        }
        down.derive(7, 0, 0, 1);
        for (int i = 0; i < 8; i++) {
            int n = i;
            Check.due("step " + n + " of the chain upwards", 2 << n, () -> up.derivedValue(n));
            Check.due("step " + n + " of the chain downwards", 256 >> n, () -> down.derivedValue(n));
            Check.due("its time", 64 * 2 + 28, () -> down.derivedTime(n));
        }
        badLoop(down, 7, 100, 0);
    }

    private static void nothingWithoutOperands() {
        Commutator x = new Commutator();
        x.addPoint(4, 0, 1, false);
        x.addPoint(4, 0, 4, false);
        x.put(0, 6);
        Lines.frames(x, 4);
        Lines.takeAll(x);
        x.derive(0, 0, 0, 1);
        x.derive(1, 0, 1, 0);
        x.derive(2, 0, 0, 2);
        x.derive(3, 0, 0, 105);
        x.derive(4, 0, 100, 0);
        x.derive(6, 0, 11, 11);
        for (int i = 0; i < 8; i++) {
            int n = i;
            Check.noElement("derivedValue(" + n + ") without an operand", x, () -> x.derivedValue(n));
            Check.noElement("derivedTime(" + n + ") without an operand", x, () -> x.derivedTime(n));
        }
        Lines.frames(x, 1);
        Lines.takeAll(x);
        Check.due("derivedValue(0) with both", 6, () -> x.derivedValue(0));
        Check.due("derivedValue(4) with both", 12, () -> x.derivedValue(4));
        Check.due("derivedTime(4) with both", 64 * 4 + 20, () -> x.derivedTime(4));
        Check.noElement("derivedValue(2) of no point", x, () -> x.derivedValue(2));
        x.derive(5, 0, 0, 0);
        Check.due("derivedValue(3) when 5 is set", 18, () -> x.derivedValue(3));
    }

    private static void setAgain() {
        Commutator x = received(4, 9);
        x.derive(2, 0, 0, 1);
        x.derive(1, 0, 102, 0);
        badLoop(x, 2, 101, 0);
        Check.due("derivedValue(2) after a refused derive", 13, () -> x.derivedValue(2));
        refused(x, 2, 5, 0, 0);
        Check.due("derivedValue(2) after another", 13, () -> x.derivedValue(2));
        x.derive(1, 1, 0, 1);
        x.derive(2, 1, 101, 0);
        Check.due("derivedValue(2) set again", -9, () -> x.derivedValue(2));
        x.derive(2, 0, 103, 0);
        Check.noElement("derivedValue(2) over one that is not set", x, () -> x.derivedValue(2));
    }

    private static void badLoop(Commutator x, int derived, int first, int second) {
        Check.fails("derive(" + derived + ", 0, " + first + ", " + second + ")",
                IllegalStateException.class, x, () -> x.derive(derived, 0, first, second));
    }

    private static void loops() {
        Commutator x = new Commutator();
        for (int i = 0; i < 8; i++) {
            badLoop(x, i, 100 + i, 0);
            badLoop(x, i, 0, 100 + i);
        }
        x.derive(0, 0, 101, 3);
        badLoop(x, 1, 100, 0);
        badLoop(x, 1, 0, 100);
        x.derive(1, 0, 4, 102);
        badLoop(x, 2, 100, 0);
        badLoop(x, 2, 7, 101);
        x.derive(2, 0, 103, 103);
        badLoop(x, 3, 100, 105);
        badLoop(x, 3, 105, 103);
        x.derive(1, 0, 0, 0);
        x.derive(3, 0, 100, 101);
        badLoop(x, 1, 0, 102);
        x.derive(4, 0, 102, 103);
        x.derive(4, 0, 103, 100);
        badLoop(x, 0, 104, 104);
        x.derive(4, 0, 1, 1);
        x.derive(0, 0, 104, 104);
    }

    private static void wrongArguments() {
        Commutator x = received(1, 2);
        x.derive(0, 0, 0, 1);
        int least = Integer.MIN_VALUE;
        int most = Integer.MAX_VALUE;
        for (int derived : new int[] {least, -1, 8, 100, most}) {
            Check.badArgument("derivedValue(" + derived + ")", x, () -> x.derivedValue(derived));
            Check.badArgument("derivedTime(" + derived + ")", x, () -> x.derivedTime(derived));
            refused(x, derived, 0, 0, 0);
        }
        for (int operation : new int[] {least, -1, 5, most}) {
            refused(x, 0, operation, 0, 0);
            refused(x, 0, operation, 100, 100);
        }
        for (int operand : new int[] {least, -1, 12, 50, 99, 108, 112, most}) {
            refused(x, 0, 0, operand, 1);
            refused(x, 0, 0, 1, operand);
            refused(x, 0, 0, 100, operand);
        }
        for (int operand : new int[] {0, 11, 101, 107}) {
            x.derive(0, 0, operand, operand);
        }
    }

    private static void refused(Commutator x, int derived, int operation, int first, int second) {
        Check.fails("derive(" + derived + ", " + operation + ", " + first + ", " + second + ")",
                IllegalArgumentException.class, x, () -> x.derive(derived, operation, first, second));
    }
}
