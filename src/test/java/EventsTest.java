/** Promises 12 to 16: events, corrections, ends, rules and ticks. */
public final class EventsTest {
    private static final Checks checks = new Checks("EventsTest");
    private static final int[] OUTSIDE = {Integer.MIN_VALUE, -1, 8, Integer.MAX_VALUE};

    public static void main(String[] args) {
        promise12Event();
        promise12Limits();
        promise13Correct();
        promise13Limits();
        promise13GivesOut();
        promise14End();
        promise14GivesOut();
        promise15Rule();
        promise15Takes();
        promise16Tick();
        promise16Rest();
        checks.end();
    }

    /** 0 source with two partitions, 1 sift, 2 sink. */
    private static Barrierbrook brook() {
        Barrierbrook b = new Barrierbrook();
        b.source(2, 0, 5);
        b.sift(0, -9999);
        b.sink(1);
        return b;
    }

    private static void promise12Event() {
        Barrierbrook b = brook();
        for (int s : OUTSIDE) checks.refusesIndex(b, "event of source " + s, () -> b.event(s, 0, -1, 16, 10000));
        checks.refusesIndex(b, "event of a SIFT", () -> b.event(1, 0, 0, 0, 0));
        for (int p : new int[] {-1, 2, 3, Integer.MIN_VALUE, Integer.MAX_VALUE}) {
            checks.refusesIndex(b, "event of partition " + p, () -> b.event(0, p, 0, 0, 0));
        }
        int[][] wrong = {{-1, 0, 0}, {10000, 0, 0}, {0, -1, 0}, {0, 16, 0}, {0, 0, -10000}, {0, 0, 10000},
            {Integer.MIN_VALUE, 0, 0}, {0, Integer.MAX_VALUE, 0}, {0, 0, Integer.MIN_VALUE}};
        for (int[] w : wrong) {
            checks.refusesArgument(b, "event of " + java.util.Arrays.toString(w), () -> b.event(0, 0, w[0], w[1], w[2]));
        }
        checks.same("first event of partition 0", b.event(0, 0, 9999, 15, 9999), 1);
        checks.same("first event of partition 1", b.event(0, 1, 0, 0, -9999), 1);
        checks.same("second event of partition 0", b.event(0, 0, 0, 0, 0), 2);
        Checks.flow(b);
        checks.same("what was told", Checks.given(b, 2), "15@9999=9999+ 0@0=-9999+ 0@0=0+");
    }

    private static void promise12Limits() {
        Barrierbrook b = brook();
        b.source(1, 0, 1);
        for (int i = 1; i <= 30; i++) checks.same("event " + i, b.event(0, 0, i, 0, 0), i);
        for (int i = 1; i <= 29; i++) checks.same("event " + i, b.event(3, 0, i, 0, 0), i);
        checks.same("the 60th event", b.event(0, 1, 1, 1, 1), 1);
        checks.refusesState(b, "the 61st event", () -> b.event(0, 1, 1, 1, 1));
        checks.refusesState(b, "the 61st event of another source", () -> b.event(3, 0, 1, 1, 1));
        checks.refusesArgument(b, "the 61st event, wrongly", () -> b.event(3, 0, 1, 16, 1));
        Barrierbrook c = brook();
        c.end(0, 1);
        checks.refusesState(c, "event behind the end", () -> c.event(0, 1, 1, 1, 1));
        checks.refusesArgument(c, "event behind the end, wrongly", () -> c.event(0, 1, -1, 1, 1));
        checks.same("event of the other partition", c.event(0, 0, 1, 1, 1), 1);
        c.run(20);
        c.crash();
        checks.refusesState(c, "event behind the end, behind a crash", () -> c.event(0, 1, 1, 1, 1));
        checks.same("events stay by a crash", c.event(0, 0, 1, 1, 1), 2);
    }

    private static void promise13Correct() {
        Barrierbrook b = brook();
        b.event(0, 0, 7, 3, 10);
        for (int s : OUTSIDE) checks.refusesIndex(b, "correct of source " + s, () -> b.correct(s, 0, 0, 0));
        checks.refusesIndex(b, "correct of a SIFT", () -> b.correct(1, 0, 0, 0));
        for (int p : new int[] {-1, 2, Integer.MAX_VALUE}) {
            checks.refusesIndex(b, "correct of partition " + p, () -> b.correct(0, p, 0, 0));
        }
        for (int e : new int[] {-1, 1, Integer.MIN_VALUE, Integer.MAX_VALUE}) {
            checks.refusesIndex(b, "correct of event " + e, () -> b.correct(0, 0, e, 10000));
        }
        checks.refusesIndex(b, "correct where there are no events", () -> b.correct(0, 1, 0, 0));
        checks.refusesArgument(b, "correct to 10000", () -> b.correct(0, 0, 0, 10000));
        checks.refusesArgument(b, "correct to -10000", () -> b.correct(0, 0, 0, -10000));
        checks.same("correct", b.correct(0, 0, 0, 9999), 3);
        checks.refusesArgument(b, "correct of what takes back", () -> b.correct(0, 0, 1, 0));
        checks.same("correct of a correction", b.correct(0, 0, 2, -9999), 5);
        checks.same("correct again what was corrected", b.correct(0, 0, 0, 4), 7);
        checks.same("an event behind that", b.event(0, 0, 8, 3, 1), 8);
    }

    private static void promise13Limits() {
        Barrierbrook b = brook();
        for (int i = 1; i <= 58; i++) b.event(0, 0, i, 0, 0);
        checks.same("correct when 58 are told", b.correct(0, 0, 0, 1), 60);
        checks.refusesState(b, "correct when 60 are told", () -> b.correct(0, 0, 0, 1));
        Barrierbrook c = brook();
        for (int i = 1; i <= 59; i++) c.event(0, 0, i, 0, 0);
        checks.refusesState(c, "correct when 59 are told", () -> c.correct(0, 0, 0, 1));
        checks.refusesArgument(c, "correct when 59 are told, wrongly", () -> c.correct(0, 0, 0, 10000));
        checks.same("the 60th", c.event(0, 0, 1, 1, 1), 60);
        Barrierbrook d = brook();
        d.event(0, 1, 1, 1, 1);
        d.correct(0, 1, 0, 2);
        d.end(0, 1);
        checks.refusesState(d, "correct behind the end", () -> d.correct(0, 1, 0, 1));
        checks.refusesArgument(d, "correct of what takes back behind the end", () -> d.correct(0, 1, 1, 1));
        checks.refusesIndex(d, "correct of no event behind the end", () -> d.correct(0, 1, 3, 1));
        Barrierbrook e = brook();
        for (int i = 1; i <= 40; i++) e.event(0, 0, i, 0, 0);
        for (int i = 1; i <= 10; i++) e.correct(0, 0, i, i);
        checks.refusesState(e, "event when 60 are told with corrections", () -> e.event(0, 1, 0, 0, 0));
    }

    private static void promise13GivesOut() {
        Barrierbrook b = brook();
        b.event(0, 0, 7, 3, 10);
        b.correct(0, 0, 0, 12);
        b.correct(0, 0, 2, -1);
        Checks.flow(b);
        checks.same("an event and its corrections", Checks.given(b, 2), "3@7=10+ 3@7=10- 3@7=12+ 3@7=12- 3@7=-1+");
        checks.same("net of them", b.net(2, 3, 7), -1);
    }

    private static void promise14End() {
        Barrierbrook b = brook();
        for (int s : OUTSIDE) checks.refusesIndex(b, "end of source " + s, () -> end(b, s, 0));
        checks.refusesIndex(b, "end of a sink", () -> end(b, 2, 0));
        for (int p : new int[] {-1, 2, Integer.MIN_VALUE}) {
            checks.refusesIndex(b, "end of partition " + p, () -> end(b, 0, p));
        }
        b.end(0, 1);
        checks.refusesState(b, "end told twice", () -> end(b, 0, 1));
        b.end(0, 0);
        checks.refusesState(b, "end of the other one told twice", () -> end(b, 0, 0));
    }

    private static long end(Barrierbrook b, int source, int partition) {
        b.end(source, partition);
        return 0;
    }

    private static void promise14GivesOut() {
        Barrierbrook b = brook();
        b.event(0, 0, 5, 0, 1);
        b.end(0, 0);
        checks.same("the event is taken first", b.step(0, 0), Barrierbrook.EVENT);
        checks.same("mark of the event", b.mark(0, 0), 4);
        b.step(0, 0);
        checks.same("the end is taken like an event", b.step(0, 0), Barrierbrook.EVENT);
        checks.same("mark of the end", b.mark(0, 0), 20000);
        checks.same("a mark alone is given out", b.outRow(0, 0), 1);
        b.step(0, 0);
        b.tick(1000);
        checks.same("no rest behind the end", b.step(0, 0), Barrierbrook.NOTHING);
        checks.same("the other partition may rest", b.step(0, 1), Barrierbrook.RESTED);
        b.run(9);
        checks.same("mark behind a partition that rests", b.mark(2, 0), 20000);
    }

    private static void promise15Rule() {
        Barrierbrook b = brook();
        for (int o : OUTSIDE) checks.refusesIndex(b, "rule of operator " + o, () -> b.rule(o, 10000));
        checks.refusesArgument(b, "rule of a source", () -> b.rule(0, 1));
        checks.refusesArgument(b, "rule of a sink", () -> b.rule(2, 1));
        for (int least : new int[] {-10000, 10000, Integer.MIN_VALUE, Integer.MAX_VALUE}) {
            checks.refusesArgument(b, "rule(1, " + least + ")", () -> b.rule(1, least));
        }
        for (int i = 1; i <= 20; i++) checks.same("rule " + i, b.rule(1, i % 2 == 0 ? 9999 : -9999), i);
        checks.refusesState(b, "the 21st rule", () -> b.rule(1, 1));
        checks.refusesArgument(b, "the 21st rule, wrongly", () -> b.rule(1, 10000));
        checks.same("all rules are taken by one step", b.step(1, 0), Barrierbrook.RULES);
        checks.same("none is left", b.step(1, 0), Barrierbrook.NOTHING);
        b.crash();
        checks.refusesState(b, "the 21st rule behind a crash", () -> b.rule(1, 1));
    }

    private static void promise15Takes() {
        Barrierbrook b = new Barrierbrook();
        b.source(1, 0, 5);
        b.sift(0, 5);
        b.sink(1);
        int[] values = {4, 5, 6, 7, 8};
        for (int v : values) b.event(0, 0, 1, 0, v);
        b.step(0, 0);
        b.step(0, 0);
        b.rule(1, 0);
        b.rule(1, 7);
        checks.same("the first record and its mark went in", b.waiting(1, 0), 2);
        checks.same("rules come ahead of channels", b.step(1, 0), Barrierbrook.RULES);
        checks.same("then a record", b.step(1, 0), Barrierbrook.RECORD);
        checks.same("the new rule is the last one", b.outRow(1, 0), 0);
        Checks.flow(b);
        checks.same("what comes through the last rule", Checks.given(b, 2), "0@1=7+ 0@1=8+");
        Barrierbrook c = new Barrierbrook();
        c.source(1, 0, 5);
        c.sift(0, 5);
        c.sink(1);
        for (int v : values) c.event(0, 0, 1, 0, v);
        Checks.flow(c);
        checks.same("what comes through the first rule", Checks.given(c, 2), "0@1=5+ 0@1=6+ 0@1=7+ 0@1=8+");
    }

    private static void promise16Tick() {
        Barrierbrook b = brook();
        for (int t : new int[] {0, -1, 1001, Integer.MIN_VALUE, Integer.MAX_VALUE}) {
            checks.refusesArgument(b, "tick(" + t + ")", () -> b.tick(t));
        }
        checks.same("tick(1)", b.tick(1), 1);
        checks.same("tick(1000)", b.tick(1000), 1001);
        b.crash();
        checks.same("ticks stay by a crash", b.tick(4), 1005);
    }

    private static void promise16Rest() {
        Barrierbrook b = brook();
        b.tick(4);
        checks.same("no rest ahead of the patience", b.step(0, 0), Barrierbrook.NOTHING);
        b.tick(1);
        checks.same("a rest by the patience", b.step(0, 0), Barrierbrook.RESTED);
        checks.yes("it rests", b.rests(0, 0));
        checks.no("the other one does not", b.rests(0, 1));
        b.step(0, 0);
        b.tick(50);
        checks.same("it rests but once", b.step(0, 0), Barrierbrook.NOTHING);
        b.event(0, 0, 0, 0, 0);
        checks.same("an event ends the rest", b.step(0, 0), Barrierbrook.EVENT);
        checks.no("it does not rest any more", b.rests(0, 0));
        checks.same("record, and the mark so far again", b.outRow(0, 0), 2);
        b.step(0, 0);
        b.tick(4);
        checks.same("ticks are counted from the event on", b.step(0, 0), Barrierbrook.NOTHING);
        b.tick(1);
        checks.same("it rests again", b.step(0, 0), Barrierbrook.RESTED);
        Barrierbrook c = brook();
        c.tick(4);
        c.crash();
        c.source(1, 0, 5);
        c.tick(1);
        checks.same("ticks are counted from the crash on", c.step(0, 0), Barrierbrook.NOTHING);
        checks.same("for a source that came later from the beginning", c.step(3, 0), Barrierbrook.RESTED);
        c.tick(4);
        checks.same("five ticks behind the crash", c.step(0, 0), Barrierbrook.RESTED);
        Barrierbrook d = brook();
        d.tick(9);
        d.event(0, 0, 1, 1, 1);
        checks.same("an event goes ahead of a rest", d.step(0, 0), Barrierbrook.EVENT);
    }
}
