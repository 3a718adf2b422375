/** The bits on a line as a text, and frames written out by hand. */
final class Lines {
    static final String SYNC = "10111000";

    private Lines() {
    }

    static String of(Commutator x) {
        StringBuilder text = new StringBuilder();
        for (int i = 0; i < x.onLine(); i++) {
            text.append(x.bit(i));
        }
        return text.toString();
    }

    static String binary(int value, int width) {
        StringBuilder text = new StringBuilder();
        for (int i = width - 1; i >= 0; i--) {
            text.append(value >> i & 1);
        }
        return text.toString();
    }

    /** A frame with these bits behind its counter, and zeros behind them. */
    static String frame(int counter, String pointBits) {
        StringBuilder text = new StringBuilder(SYNC + binary(counter, 8) + pointBits);
        while (text.length() < 64) {
            text.append('0');
        }
        return text.toString();
    }

    static void send(Commutator x, int words) {
        for (int left = words; left > 0; left -= 64) {
            x.send(Math.min(left, 64));
        }
    }

    static void frames(Commutator x, int frames) {
        send(x, 8 * frames);
    }

    static void takeAll(Commutator x) {
        while (x.onLine() > 0) {
            x.receive(4096);
        }
    }

    /** Flips bits until the line begins with this text. */
    static void write(Commutator x, int index, String text) {
        for (int i = 0; i < text.length(); i++) {
            if (x.bit(index + i) != text.charAt(i) - '0') {
                x.flip(index + i);
            }
        }
    }
}
