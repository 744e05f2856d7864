import java.util.function.LongSupplier;

/** Compares answers with those that are due, prints each that is not, and ends the test. */
final class Checks {
    private final String test;
    private int done;
    private int wrong;

    Checks(String test) {
        this.test = test;
    }

    void same(String what, long got, long due) {
        same(what, Long.toString(got), Long.toString(due));
    }

    void same(String what, String got, String due) {
        done++;
        if (!got.equals(due)) {
            wrong++;
            System.out.println(test + ": " + what + " answered " + got + ", due is " + due);
        }
    }

    void yes(String what, boolean got) {
        same(what, String.valueOf(got), "true");
    }

    void no(String what, boolean got) {
        same(what, String.valueOf(got), "false");
    }

    /** Lets a hand step, so many times as answers are due. */
    void steps(String what, Barrierbrook b, int operator, int hand, int... due) {
        for (int i = 0; i < due.length; i++) {
            same(what + ", step " + i + " of " + operator + "/" + hand, b.step(operator, hand), due[i]);
        }
    }

    /** The call must throw just this exception, and change nothing that can be seen. */
    void refuses(Barrierbrook b, Class<? extends RuntimeException> due, String what, LongSupplier call) {
        String before = picture(b);
        String got;
        try {
            got = Long.toString(call.getAsLong());
        } catch (RuntimeException e) {
            got = e.getClass().getSimpleName();
        }
        same(what, got, due.getSimpleName());
        same(what + " changes nothing", picture(b), before);
    }

    void refusesIndex(Barrierbrook b, String what, LongSupplier call) {
        refuses(b, IndexOutOfBoundsException.class, what, call);
    }

    void refusesArgument(Barrierbrook b, String what, LongSupplier call) {
        refuses(b, IllegalArgumentException.class, what, call);
    }

    void refusesState(Barrierbrook b, String what, LongSupplier call) {
        refuses(b, IllegalStateException.class, what, call);
    }

    void end() {
        System.out.println(test + ": " + done + " checks, " + wrong + " wrong");
        if (wrong > 0) {
            System.exit(1);
        }
    }

    /** All that can be asked of an object without changing it. */
    static String picture(Barrierbrook b) {
        StringBuilder all = new StringBuilder();
        all.append("joined ").append(b.joined()).append(" stuck ").append(b.isStuck()).append('\n');
        for (int o = 0; o < 8; o++) {
            int hands;
            try {
                hands = b.hands(o);
            } catch (IndexOutOfBoundsException e) {
                break;
            }
            all.append(o).append(": lost ").append(b.lost(o));
            for (int h = 0; h < hands; h++) {
                all.append("; mark ").append(b.mark(o, h)).append(" rests ").append(b.rests(o, h));
                all.append(" out ").append(b.outRow(o, h)).append(" waiting ").append(b.waiting(o, h));
            }
            try {
                all.append(" pending ").append(b.pending(o)).append(" given ").append(given(b, o));
            } catch (IndexOutOfBoundsException e) {
                all.append(" no sink");
            }
            all.append('\n');
        }
        return all.toString();
    }

    /** What a sink has given out, each record as key@time=value and its sign. */
    static String given(Barrierbrook b, int sink) {
        return given(b, sink, 0);
    }

    static String given(Barrierbrook b, int sink, int from) {
        StringBuilder all = new StringBuilder();
        for (int i = from; i < b.given(sink); i++) {
            if (i > from) {
                all.append(' ');
            }
            all.append(b.givenAt(sink, i, 0)).append('@').append(b.givenAt(sink, i, 1));
            all.append('=').append(b.givenAt(sink, i, 2)).append(b.givenAt(sink, i, 3) == 1 ? "+" : "-");
        }
        return all.toString();
    }

    /** Lets all flow through, and has the sinks give out what they got. */
    static void flow(Barrierbrook b) {
        b.run(50);
        b.run(50);
        b.cut(true);
    }
}
