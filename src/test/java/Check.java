import java.util.NoSuchElementException;

/** Compares answers with those that are due, prints the wrong ones, and counts them. */
final class Check {
    interface Call {
        int run();
    }

    interface Order {
        void run();
    }

    private static int compared;
    private static int wrong;

    private Check() {
    }

    static void due(String call, int want, Call call1) {
        compared++;
        String got = told(call1);
        if (!got.equals("" + want)) {
            complain(call, got, "" + want);
        }
    }

    static void same(String what, String want, String got) {
        compared++;
        if (!got.equals(want)) {
            complain(what, got, want);
        }
    }

    static void holds(String what, boolean right) {
        same(what, "true", "" + right);
    }

    /** The call throws just this exception and changes nothing that can be seen. */
    static void fails(String call, Class<? extends RuntimeException> want, Commutator x, Call refused) {
        String before = seen(x);
        same(call, "throws." + want.getSimpleName(), told(refused));
        same("all answers after the refused " + call, before, seen(x));
    }

    static void fails(String call, Class<? extends RuntimeException> want, Commutator x, Order refused) {
        fails(call, want, x, () -> {
            refused.run();
            return 0;
        });
    }

    static void noSuchIndex(String call, Commutator x, Call refused) {
        fails(call, IndexOutOfBoundsException.class, x, refused);
    }

    static void badArgument(String call, Commutator x, Call refused) {
        fails(call, IllegalArgumentException.class, x, refused);
    }

    static void badState(String call, Commutator x, Call refused) {
        fails(call, IllegalStateException.class, x, refused);
    }

    static void noElement(String call, Commutator x, Call refused) {
        fails(call, NoSuchElementException.class, x, refused);
    }

    static String told(Call call) {
        try {
            return "" + call.run();
        } catch (RuntimeException e) {
            return "throws." + e.getClass().getSimpleName();
        }
    }

    /** Every answer that an object gives without being changed by it. */
    static String seen(Commutator x) {
        StringBuilder all = new StringBuilder();
        all.append(x.points()).append(' ').append(x.spare()).append(' ').append(x.sent()).append(' ');
        all.append(x.onLine()).append(' ').append(x.state()).append(' ').append(x.taken()).append(' ');
        all.append(x.frames()).append(' ').append(x.lost()).append(' ').append(x.repeats()).append(' ');
        all.append(told(() -> x.number())).append(' ').append(x.bestOffset()).append(" line ");
        for (int i = 0; i < x.onLine(); i++) {
            all.append(x.bit(i));
        }
        for (int i = 0; i < x.points(); i++) {
            int point = i;
            all.append(" point ").append(x.place(point)).append(' ').append(told(() -> x.value(point)));
            all.append(' ').append(told(() -> x.time(point))).append(' ').append(x.samples(point));
            all.append(' ').append(x.missing(point));
        }
        for (int i = 0; i < 8; i++) {
            int derived = i;
            all.append(" derived ").append(told(() -> x.derivedValue(derived)));
            all.append(' ').append(told(() -> x.derivedTime(derived)));
        }
        for (int i = 0; i < 64; i++) {
            all.append(' ').append(x.matches(i));
        }
        return all.toString();
    }

    static void end(String test) {
        System.out.println(test + ": " + compared + " answers compared, " + wrong + " wrong");
        System.exit(wrong == 0 ? 0 : 1);
    }

    private static void complain(String call, String got, String want) {
        wrong++;
        System.out.println(call + " answered " + got + ", due is " + want);
    }
}
