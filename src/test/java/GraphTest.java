import java.util.function.ToIntFunction;

/** Promises 1 to 11: what can be added, where, and until when; the number of hands; what does the same. */
public final class GraphTest {
    private static final Checks checks = new Checks("GraphTest");
    private static final int[] OUTSIDE = {Integer.MIN_VALUE, -1, 8, Integer.MAX_VALUE};

    public static void main(String[] args) {
        promise1NewObject();
        promise2Source();
        promise3Sift();
        promise4Change();
        promise5Window();
        promise6Join();
        promise7Table();
        promise8Pattern();
        promise9Sink();
        addingUntilItIsTooLate();
        whatDoesNotMakeItTooLate();
        eightOperators();
        promise10Rescale();
        promise11IsSame();
        promise11ChainsOfChange();
        checks.end();
    }

    private static Barrierbrook withSource() {
        Barrierbrook b = new Barrierbrook();
        b.source(2, 0, 5);
        return b;
    }

    /** 0 source, 1 sift, 2 sink, 3 window, 4 source. */
    private static Barrierbrook withSome() {
        Barrierbrook b = withSource();
        b.sift(0, 0);
        b.sink(1);
        b.window(0, Barrierbrook.TUMBLE, 5, 0, false, 0, 0);
        b.source(1, 0, 1);
        return b;
    }

    private static void promise1NewObject() {
        Barrierbrook b = new Barrierbrook();
        checks.refusesIndex(b, "hands(0) of a new object", () -> b.hands(0));
        checks.refusesIndex(b, "step(0, 0) of a new object", () -> b.step(0, 0));
        checks.same("joined() of a new object", b.joined(), -1);
        checks.no("isStuck() of a new object", b.isStuck());
        checks.same("crash() of a new object", b.crash(), -1);
        checks.refusesState(b, "cut(false) of a new object", () -> b.cut(false));
        checks.refusesState(b, "cut(true) of a new object", () -> b.cut(true));
        checks.same("source() of a new object", b.source(1, 0, 1), 0);
        Barrierbrook other = new Barrierbrook();
        checks.same("run(1) of a new object", other.run(1), 0);
        checks.refusesState(other, "source() behind run()", () -> other.source(1, 0, 1));
        int[] kinds = {Barrierbrook.TUMBLE, Barrierbrook.SLIDE, Barrierbrook.SESSION, Barrierbrook.BUNCH};
        int[] steps = {Barrierbrook.NOTHING, Barrierbrook.WENT_OUT, Barrierbrook.JOINED, Barrierbrook.EVENT,
            Barrierbrook.RESTED, Barrierbrook.RULES, Barrierbrook.RECORD, Barrierbrook.MARK, Barrierbrook.REST,
            Barrierbrook.BARRIER};
        for (int i = 0; i < kinds.length; i++) checks.same("constant of kinds " + i, kinds[i], i);
        for (int i = 0; i < steps.length; i++) checks.same("constant of steps " + i, steps[i], i);
    }

    private static void promise2Source() {
        Barrierbrook b = new Barrierbrook();
        int[][] wrong = {{0, 0, 1}, {4, 0, 1}, {-1, 0, 1}, {1, -1, 1}, {1, 101, 1}, {1, 0, 0}, {1, 0, 101},
            {Integer.MAX_VALUE, 0, 1}, {1, Integer.MIN_VALUE, 1}, {1, 0, Integer.MIN_VALUE}};
        for (int[] w : wrong) {
            checks.refusesArgument(b, "source(" + w[0] + ", " + w[1] + ", " + w[2] + ")",
                () -> b.source(w[0], w[1], w[2]));
        }
        checks.same("source(1, 0, 1)", b.source(1, 0, 1), 0);
        checks.same("source(3, 100, 100)", b.source(3, 100, 100), 1);
        checks.same("source(2, 50, 50)", b.source(2, 50, 50), 2);
        checks.same("hands(0)", b.hands(0), 1);
        checks.same("hands(1)", b.hands(1), 3);
        checks.same("hands(2)", b.hands(2), 2);
    }

    /** An input must be there, and be no sink, whatever else is wrong. */
    private static void inputs(String name, ToIntFunction<int[]> add) {
        Barrierbrook b = current;
        for (int input : OUTSIDE) {
            checks.refusesIndex(b, name + " of input " + input, () -> add.applyAsInt(new int[] {input}));
        }
        checks.refusesIndex(b, name + " of the next number", () -> add.applyAsInt(new int[] {5}));
        checks.refusesIndex(b, name + " of a sink", () -> add.applyAsInt(new int[] {2}));
    }

    private static Barrierbrook current;

    private static void promise3Sift() {
        current = withSome();
        Barrierbrook b = current;
        inputs("sift", x -> b.sift(x[0], 10000));
        for (int least : new int[] {-10000, 10000, Integer.MIN_VALUE, Integer.MAX_VALUE}) {
            checks.refusesArgument(b, "sift(0, " + least + ")", () -> b.sift(0, least));
        }
        checks.same("sift(0, -9999)", b.sift(0, -9999), 5);
        checks.same("sift(5, 9999)", b.sift(5, 9999), 6);
        checks.same("hands of a new SIFT", b.hands(5), 1);
    }

    private static void promise4Change() {
        current = withSome();
        Barrierbrook b = current;
        inputs("change", x -> b.change(x[0], 10, 0));
        int[][] wrong = {{10, 0}, {-10, 0}, {0, 10000}, {0, -10000}, {Integer.MIN_VALUE, Integer.MAX_VALUE}};
        for (int[] w : wrong) {
            checks.refusesArgument(b, "change(0, " + w[0] + ", " + w[1] + ")", () -> b.change(0, w[0], w[1]));
        }
        checks.same("change(0, -9, -9999)", b.change(0, -9, -9999), 5);
        checks.same("change(0, 9, 9999)", b.change(0, 9, 9999), 6);
        checks.same("hands of a new CHANGE", b.hands(5), 1);
    }

    private static void promise5Window() {
        current = withSome();
        Barrierbrook b = current;
        inputs("window", x -> b.window(x[0], 4, 1, 1, false, 0, 0));
        int[][] wrong = {{-1, 1, 1, 0, 0}, {4, 1, 1, 0, 0}, {0, 0, 1, 0, 0}, {0, 101, 1, 0, 0}, {0, 1, 1, -1, 0},
            {0, 1, 1, 101, 0}, {0, 1, 1, 0, -1}, {0, 1, 1, 0, 101}, {1, 10, 3, 0, 0}, {1, 10, 11, 0, 0},
            {1, 9, 2, 0, 0}, {1, 1, 0, 0, 0}, {1, 1, 2, 0, 0}, {1, 100, 33, 0, 0}, {1, 0, 0, 0, 0}, {1, 3, -1, 0, 0},
            {2, 101, 1, 0, 0}, {3, 0, 1, 0, 0}, {1, 10, Integer.MIN_VALUE, 0, 0}, {1, Integer.MAX_VALUE, 5, 0, 0}};
        for (int[] w : wrong) {
            checks.refusesArgument(b, "window of " + java.util.Arrays.toString(w),
                () -> b.window(0, w[0], w[1], w[2], true, w[3], w[4]));
        }
        checks.refusesArgument(b, "window below a WINDOW", () -> b.window(3, 0, 1, 1, false, 0, 0));
        checks.same("window by TUMBLE, slide does not matter", b.window(0, 0, 100, -77, false, 100, 100), 5);
        checks.same("window by SLIDE of 10 and 4", b.window(0, 1, 10, 4, false, 0, 0), 6);
        checks.same("change below a WINDOW", b.change(3, 1, 1), 7);
        Barrierbrook c = withSome();
        c.change(3, 1, 1);
        c.join(0, 4, 1);
        c.table(0, 6);
        checks.refusesArgument(c, "window below a CHANGE below a WINDOW", () -> c.window(5, 0, 1, 1, false, 0, 0));
        checks.refusesArgument(c, "window below a JOIN", () -> c.window(6, 0, 1, 1, false, 0, 0));
        checks.refusesArgument(c, "window below a TABLE with a JOIN as second input",
            () -> c.window(7, 3, 1, 1, false, 0, 0));
        Barrierbrook d = withSource();
        checks.same("SLIDE of 9 and 3", d.window(0, 1, 9, 3, false, 0, 0), 1);
        checks.same("SLIDE of 9 and 9", d.window(0, 1, 9, 9, false, 0, 0), 2);
        checks.same("SLIDE of 1 and 1", d.window(0, 1, 1, 1, false, 0, 0), 3);
        checks.same("SLIDE of 100 and 34", d.window(0, 1, 100, 34, false, 0, 0), 4);
        checks.same("SESSION", d.window(0, 2, 1, 0, false, 0, 0), 5);
        checks.same("BUNCH", d.window(0, 3, 1, 0, false, 0, 0), 6);
    }

    private static void promise6Join() {
        current = withSome();
        Barrierbrook b = current;
        inputs("join, first input,", x -> b.join(x[0], 0, 101));
        inputs("join, second input,", x -> b.join(0, x[0], 101));
        checks.refusesIndex(b, "join of a sink with itself", () -> b.join(2, 2, 1));
        checks.refusesArgument(b, "join of the same", () -> b.join(0, 0, 1));
        checks.refusesArgument(b, "join with reach -1", () -> b.join(0, 4, -1));
        checks.refusesArgument(b, "join with reach 101", () -> b.join(0, 4, 101));
        checks.refusesArgument(b, "join, a WINDOW as first input", () -> b.join(3, 0, 1));
        checks.refusesArgument(b, "join, a WINDOW as second input", () -> b.join(0, 3, 1));
        checks.same("join(0, 4, 0)", b.join(0, 4, 0), 5);
        checks.same("join(4, 1, 100)", b.join(4, 1, 100), 6);
        checks.refusesArgument(b, "join below a JOIN", () -> b.join(0, 5, 1));
        checks.same("sift below a JOIN", b.sift(5, 1), 7);
        checks.refusesArgument(b, "join below a SIFT below a JOIN", () -> b.join(7, 0, 1));
    }

    private static void promise7Table() {
        current = withSome();
        Barrierbrook b = current;
        inputs("table, first input,", x -> b.table(x[0], 0));
        inputs("table, second input,", x -> b.table(0, x[0]));
        checks.refusesIndex(b, "table of a sink with itself", () -> b.table(2, 2));
        checks.refusesArgument(b, "table of the same", () -> b.table(4, 4));
        checks.same("table(0, 4)", b.table(0, 4), 5);
        checks.same("table of WINDOW and TABLE", b.table(3, 5), 6);
    }

    private static void promise8Pattern() {
        current = withSome();
        Barrierbrook b = current;
        inputs("pattern", x -> b.pattern(x[0], 0, -1, 1, 0));
        int[][] wrong = {{-10000, 0, 1, 0}, {0, -1, 1, 0}, {5, 4, 1, 0}, {0, 10000, 1, 0}, {10000, 10000, 1, 0},
            {0, 0, 0, 0}, {0, 0, 6, 0}, {0, 0, 1, -1}, {0, 0, 1, 1001}};
        for (int[] w : wrong) {
            checks.refusesArgument(b, "pattern of " + java.util.Arrays.toString(w),
                () -> b.pattern(0, w[0], w[1], w[2], w[3]));
        }
        checks.same("pattern with the least numbers", b.pattern(0, -9999, -9999, 1, 0), 5);
        checks.same("pattern with the greatest numbers", b.pattern(3, 9999, 9999, 5, 1000), 6);
    }

    private static void promise9Sink() {
        current = withSome();
        Barrierbrook b = current;
        inputs("sink", x -> b.sink(x[0]));
        checks.same("sink(0)", b.sink(0), 5);
        checks.same("sink of a WINDOW", b.sink(3), 6);
        checks.same("given of a new sink", b.given(5), 0);
        checks.same("pending of a new sink", b.pending(5), 0);
    }

    private static final String[] ADDERS = {"source", "sift", "change", "window", "join", "table", "pattern", "sink"};

    private static int add(Barrierbrook b, int adder) {
        switch (adder) {
            case 0: return b.source(1, 0, 1);
            case 1: return b.sift(0, 0);
            case 2: return b.change(0, 1, 0);
            case 3: return b.window(0, 0, 1, 0, false, 0, 0);
            case 4: return b.join(0, 4, 1);
            case 5: return b.table(0, 4);
            case 6: return b.pattern(0, 0, 0, 1, 0);
            default: return b.sink(0);
        }
    }

    private static int addWrongly(Barrierbrook b, int adder) {
        switch (adder) {
            case 0: return b.source(0, 0, 1);
            case 1: return b.sift(0, 10000);
            case 2: return b.change(0, 10, 0);
            case 3: return b.window(3, 0, 1, 0, false, 0, 0);
            case 4: return b.join(0, 0, 1);
            case 5: return b.table(0, 0);
            case 6: return b.pattern(0, 1, 0, 1, 0);
            default: return b.sink(2);
        }
    }

    /** It is too late behind an event, an end, a rule, step(), run() and a cut; other exceptions come first. */
    private static void addingUntilItIsTooLate() {
        for (int late = 0; late < 7; late++) {
            Barrierbrook b = withSome();
            switch (late) {
                case 0 -> b.event(0, 0, 1, 1, 1);
                case 1 -> b.end(0, 0);
                case 2 -> b.rule(1, 1);
                case 3 -> checks.same("a step that does nothing", b.step(1, 0), 0);
                case 4 -> checks.same("a run that does nothing", b.run(1), 0);
                case 5 -> b.cut(false);
                default -> b.cut(true);
            }
            for (int adder = 0; adder < 8; adder++) {
                int a = adder;
                checks.refusesState(b, ADDERS[a] + " when it is too late " + late, () -> add(b, a));
                if (adder == 7) {
                    checks.refusesIndex(b, "sink, wrongly and too late", () -> addWrongly(b, a));
                } else {
                    checks.refusesArgument(b, ADDERS[a] + ", wrongly and too late", () -> addWrongly(b, a));
                }
            }
        }
    }

    private static void whatDoesNotMakeItTooLate() {
        Barrierbrook b = withSome();
        b.tick(3);
        b.crash();
        b.rescale(1, 2);
        checks.refusesIndex(b, "step(9, 0)", () -> b.step(9, 0));
        checks.refusesArgument(b, "run(0)", () -> b.run(0));
        checks.refusesArgument(b, "event with key 16", () -> b.event(0, 0, 0, 16, 0));
        checks.refusesIndex(b, "correct of no event", () -> b.correct(0, 0, 0, 0));
        checks.refusesArgument(b, "rule of no SIFT", () -> b.rule(0, 0));
        checks.same("source behind tick, crash, rescale and refused calls", b.source(1, 0, 1), 5);
    }

    private static void eightOperators() {
        Barrierbrook b = withSome();
        for (int i = 5; i < 8; i++) checks.same("operator " + i, b.sift(0, i), i);
        for (int adder = 0; adder < 8; adder++) {
            int a = adder;
            checks.refusesState(b, ADDERS[a] + " as the ninth", () -> add(b, a));
        }
        checks.refusesArgument(b, "source, wrongly, as the ninth", () -> addWrongly(b, 0));
    }

    private static void promise10Rescale() {
        Barrierbrook b = withSome();
        for (int o : OUTSIDE) checks.refusesIndex(b, "rescale(" + o + ", 9)", () -> b.rescale(o, 9));
        checks.refusesArgument(b, "rescale of a source", () -> b.rescale(0, 2));
        for (int hands : new int[] {0, 4, -1, Integer.MIN_VALUE, Integer.MAX_VALUE}) {
            checks.refusesArgument(b, "rescale(1, " + hands + ")", () -> b.rescale(1, hands));
        }
        checks.same("rescale(1, 3)", b.rescale(1, 3), 1);
        checks.same("hands(1)", b.hands(1), 3);
        checks.same("rescale(1, 3) again", b.rescale(1, 3), 3);
        checks.same("rescale(1, 2)", b.rescale(1, 2), 3);
        checks.same("rescale(1, 1)", b.rescale(1, 1), 2);
        checks.same("rescale of a sink", b.rescale(2, 2), 1);
        checks.same("mark of a new hand", b.mark(2, 1), -1);
        checks.no("rests of a new hand", b.rests(2, 1));
        checks.refusesIndex(b, "mark of a hand that is not there", () -> b.mark(2, 2));
        b.cut(true);
        checks.refusesState(b, "rescale when the last cut overtook", () -> b.rescale(1, 2));
        checks.refusesArgument(b, "rescale of a source when the last cut overtook", () -> b.rescale(0, 2));
        checks.refusesIndex(b, "rescale of nothing when the last cut overtook", () -> b.rescale(8, 2));
        b.cut(false);
        checks.refusesState(b, "rescale when one that aligns goes on behind one that overtook", () -> b.rescale(1, 2));
        b.run(20);
        checks.same("the cut that aligns is done", b.joined(), -1);
        checks.same("rescale when the last cut aligned", b.rescale(1, 2), 1);
    }

    private static void promise11IsSame() {
        Barrierbrook b = new Barrierbrook();
        b.source(1, 0, 1);
        b.source(1, 0, 1);
        b.sift(0, 3);
        b.sift(0, 3);
        b.sift(1, 3);
        b.sift(0, 4);
        b.sink(2);
        b.sink(3);
        for (int o : OUTSIDE) {
            checks.refusesIndex(b, "isSame(" + o + ", 0)", () -> b.isSame(o, 0) ? 1 : 0);
            checks.refusesIndex(b, "isSame(0, " + o + ")", () -> b.isSame(0, o) ? 1 : 0);
        }
        checks.yes("a source and itself", b.isSame(0, 0));
        checks.no("two sources with the same numbers", b.isSame(0, 1));
        checks.yes("two SIFT of one source", b.isSame(2, 3));
        checks.no("SIFT of different sources", b.isSame(2, 4));
        checks.no("SIFT with different rules", b.isSame(2, 5));
        checks.yes("sinks of what does the same", b.isSame(6, 7));
        checks.no("a SIFT and a sink", b.isSame(2, 6));
        b.rule(2, 77);
        b.run(3);
        checks.yes("rules told later do not matter", b.isSame(3, 2));
        sameWindows();
        sameJoins();
    }

    private static void sameWindows() {
        int[][] numbers = {{0, 6, 6, 0, 0, 0}, {1, 6, 6, 0, 0, 0}, {0, 6, 2, 0, 0, 0}, {1, 6, 3, 0, 0, 0},
            {0, 6, 6, 1, 0, 0}, {0, 6, 6, 0, 1, 0}, {0, 6, 6, 0, 0, 1}};
        Barrierbrook b = withSource();
        for (int[] w : numbers) b.window(0, w[0], w[1], w[2], w[3] == 1, w[4], w[5]);
        for (int i = 1; i <= 7; i++) {
            for (int j = 1; j <= 7; j++) {
                boolean due = i == j || i + j == 4 && i != 2;
                checks.same("windows " + i + " and " + j, b.isSame(i, j) ? 1 : 0, due ? 1 : 0);
            }
        }
        Barrierbrook c = withSource();
        c.window(0, 3, 6, 1, false, 0, 0);
        c.window(0, 3, 6, 2, false, 5, 0);
        c.window(0, 2, 6, 1, false, 5, 2);
        c.window(0, 2, 6, 9, false, 5, 2);
        c.window(0, 3, 6, 0, false, 0, 0);
        checks.no("BUNCH with another lateness", c.isSame(1, 2));
        checks.yes("SESSION with another slide", c.isSame(3, 4));
        checks.yes("BUNCH with another slide", c.isSame(1, 5));
        checks.no("BUNCH and SESSION", c.isSame(2, 3));
    }

    private static void sameJoins() {
        Barrierbrook b = new Barrierbrook();
        b.source(1, 0, 1);
        b.source(1, 0, 1);
        b.join(0, 1, 5);
        b.join(1, 0, 5);
        b.join(0, 1, 5);
        b.join(0, 1, 6);
        b.table(0, 1);
        b.table(1, 0);
        checks.yes("JOIN of the same inputs", b.isSame(2, 4));
        checks.no("JOIN of inputs the other way round", b.isSame(2, 3));
        checks.no("JOIN with another reach", b.isSame(2, 5));
        checks.no("TABLE of inputs the other way round", b.isSame(6, 7));
        checks.no("JOIN and TABLE", b.isSame(2, 6));
        Barrierbrook c = withSource();
        c.pattern(0, 1, 2, 3, 4);
        c.pattern(0, 1, 2, 3, 4);
        c.pattern(0, 0, 2, 3, 4);
        c.pattern(0, 1, 3, 3, 4);
        c.pattern(0, 1, 2, 2, 4);
        c.pattern(0, 1, 2, 3, 5);
        checks.yes("PATTERN with the same numbers", c.isSame(1, 2));
        for (int i = 3; i <= 6; i++) checks.no("PATTERN 1 and " + i, c.isSame(1, i));
    }

    private static void promise11ChainsOfChange() {
        Barrierbrook b = withSource();
        b.change(0, 2, 3);
        b.change(1, 3, 1);
        b.change(0, 3, 3);
        b.change(3, 2, 4);
        b.change(0, 6, 10);
        b.change(0, 1, 0);
        b.change(0, 6, 9);
        checks.yes("2v+3 then 3v+1, and 3v+3 then 2v+4", b.isSame(2, 4));
        checks.yes("a chain and one CHANGE", b.isSame(2, 5));
        checks.no("6v+10 and 6v+9", b.isSame(5, 7));
        checks.no("a CHANGE that changes nothing, and its input", b.isSame(6, 0));
        checks.no("one link of a chain", b.isSame(1, 2));
        Barrierbrook c = withSource();
        c.sift(0, 1);
        c.sift(0, 1);
        c.change(1, -1, 0);
        c.change(3, -1, 0);
        c.change(2, 1, 0);
        c.sink(4);
        c.sink(5);
        checks.yes("chains of what does the same", c.isSame(4, 5));
        checks.yes("sinks of such chains", c.isSame(6, 7));
        Barrierbrook d = withSource();
        d.change(0, 9, 9999);
        d.change(1, 9, 9999);
        d.change(2, 9, 9999);
        d.change(3, 9, 9999);
        d.change(0, 0, 5);
        d.change(5, 9, -40);
        d.change(0, 0, 5);
        checks.no("chains without bounds", d.isSame(3, 4));
        checks.yes("a factor of 0", d.isSame(6, 7));
    }
}
