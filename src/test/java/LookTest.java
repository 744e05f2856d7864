import java.util.function.IntToLongFunction;

/** Promises 23 to 33: what can be asked. */
public final class LookTest {
    private static final Checks checks = new Checks("LookTest");
    private static final int[] OUTSIDE = {Integer.MIN_VALUE, -1, 4, 8, Integer.MAX_VALUE};

    public static void main(String[] args) {
        promise23Hands();
        promises24To27Refuse();
        promises24To27Answer();
        promise28Lost();
        promise29Net();
        promise30Whole();
        promise30Changed();
        promise30TooLate();
        promise30Bounds();
        promise31Given();
        promise32GivenAt();
        promise33Pending();
        checks.end();
    }

    /** 0 source with two partitions, 1 window, 2 sink, 3 sift. */
    private static Barrierbrook brook() {
        Barrierbrook b = new Barrierbrook();
        b.source(2, 0, 10);
        b.window(0, Barrierbrook.TUMBLE, 5, 0, false, 0, 0);
        b.sink(1);
        b.sift(0, 3);
        return b;
    }

    private static void outside(Barrierbrook b, String name, IntToLongFunction call) {
        for (int o : OUTSIDE) checks.refusesIndex(b, name + " of operator " + o, () -> call.applyAsLong(o));
    }

    private static void noSinks(Barrierbrook b, String name, IntToLongFunction call) {
        outside(b, name, call);
        for (int o : new int[] {0, 1, 3}) checks.refusesIndex(b, name + " of operator " + o, () -> call.applyAsLong(o));
    }

    private static void promise23Hands() {
        Barrierbrook b = brook();
        outside(b, "hands", b::hands);
        checks.same("hands of a source", b.hands(0), 2);
        checks.same("hands of a window", b.hands(1), 1);
        b.rescale(1, 3);
        checks.same("hands behind rescale", b.hands(1), 3);
    }

    private static void promises24To27Refuse() {
        Barrierbrook b = brook();
        outside(b, "mark", o -> b.mark(o, 0));
        outside(b, "rests", o -> b.rests(o, 0) ? 1 : 0);
        outside(b, "outRow", o -> b.outRow(o, 0));
        outside(b, "waiting", o -> b.waiting(o, 0));
        int[][] wrong = {{0, 2}, {0, -1}, {1, 1}, {2, 1}, {3, 3}, {0, Integer.MIN_VALUE}, {0, Integer.MAX_VALUE}};
        for (int[] w : wrong) {
            String hand = "(" + w[0] + ", " + w[1] + ")";
            checks.refusesIndex(b, "mark" + hand, () -> b.mark(w[0], w[1]));
            checks.refusesIndex(b, "rests" + hand, () -> b.rests(w[0], w[1]) ? 1 : 0);
            checks.refusesIndex(b, "outRow" + hand, () -> b.outRow(w[0], w[1]));
            checks.refusesIndex(b, "waiting" + hand, () -> b.waiting(w[0], w[1]));
        }
    }

    private static void promises24To27Answer() {
        Barrierbrook b = brook();
        checks.same("mark at first", b.mark(1, 0), -1);
        checks.no("rests at first", b.rests(0, 1));
        b.event(0, 1, 7, 0, 1);
        b.step(0, 1);
        checks.same("mark of a partition", b.mark(0, 1), 6);
        checks.same("mark of the other one", b.mark(0, 0), -1);
        checks.same("out row of a partition", b.outRow(0, 1), 2);
        checks.same("out row of the other one", b.outRow(0, 0), 0);
        checks.same("nothing waits yet", b.waiting(1, 0), 0);
        b.step(0, 1);
        checks.same("out row behind it went out", b.outRow(0, 1), 0);
        checks.same("two wait", b.waiting(1, 0), 2);
        checks.same("in each follower", b.waiting(3, 0), 2);
        checks.same("nothing waits for a source", b.waiting(0, 1), 0);
        b.tick(10);
        b.step(0, 0);
        b.step(0, 0);
        checks.yes("a partition rests", b.rests(0, 0));
        checks.no("the other one does not", b.rests(0, 1));
        checks.same("three in all channels", b.waiting(1, 0), 3);
        b.step(1, 0);
        checks.same("two in all channels", b.waiting(1, 0), 2);
    }

    private static void promise28Lost() {
        Barrierbrook b = brook();
        outside(b, "lost", b::lost);
        b.event(0, 0, 9, 0, 1);
        b.end(0, 1);
        b.event(0, 0, 3, 0, 1);
        b.event(0, 0, 4, 8, 1);
        b.run(20);
        checks.same("lost in a window", b.lost(1), 2);
        checks.same("lost in a source", b.lost(0), 0);
        checks.same("lost in a sink", b.lost(2), 0);
        checks.same("lost in a sift", b.lost(3), 0);
        b.crash();
        checks.same("lost behind a crash", b.lost(1), 0);
        b.run(20);
        checks.same("lost again", b.lost(1), 2);
    }

    private static void promise29Net() {
        Barrierbrook b = brook();
        noSinks(b, "net", o -> b.net(o, 16, -1));
        int[][] wrong = {{-1, 0}, {16, 0}, {0, -1}, {0, 20001}, {Integer.MIN_VALUE, 0}, {0, Integer.MAX_VALUE}};
        for (int[] w : wrong) {
            checks.refusesArgument(b, "net(2, " + w[0] + ", " + w[1] + ")", () -> b.net(2, w[0], w[1]));
        }
        b.event(0, 0, 1, 0, 5);
        b.event(0, 0, 2, 15, 9);
        b.event(0, 0, 4, 0, -12);
        b.end(0, 0);
        b.end(0, 1);
        b.run(20);
        checks.same("net of what is pending", b.net(2, 0, 4), 0);
        b.cut(true);
        checks.same("net of key 0", b.net(2, 0, 4), -7);
        checks.same("net of key 15", b.net(2, 15, 4), 9);
        checks.same("net of another time", b.net(2, 0, 1), 0);
        checks.same("net of another key", b.net(2, 1, 4), 0);
        checks.same("net at the last time", b.net(2, 15, 20000), 0);
        Barrierbrook c = new Barrierbrook();
        c.source(1, 0, 10);
        c.sink(0);
        c.event(0, 0, 9, 3, 5);
        c.correct(0, 0, 0, 7);
        c.event(0, 0, 9, 3, 100);
        Checks.flow(c);
        checks.same("net of a correction", c.net(1, 3, 9), 107);
        Barrierbrook d = new Barrierbrook();
        d.source(1, 0, 10);
        d.change(0, 9, 0);
        d.change(1, 9, 0);
        d.change(2, 9, 0);
        d.sink(3);
        for (int i = 0; i < 60; i++) d.event(0, 0, 9, 3, -9999);
        Checks.flow(d);
        Checks.flow(d);
        checks.same("net without a bound", d.net(4, 3, 9), -60000000L);
    }

    private static void promise30Whole() {
        Barrierbrook b = new Barrierbrook();
        b.source(2, 0, 10);
        b.window(0, Barrierbrook.SESSION, 5, 0, false, 0, 0);
        b.window(0, Barrierbrook.BUNCH, 5, 0, false, 0, 0);
        b.sink(0);
        b.pattern(0, 0, 0, 1, 0);
        b.window(4, Barrierbrook.TUMBLE, 5, 0, false, 0, 0);
        b.source(1, 0, 10);
        b.join(0, 6, 5);
        for (int o : new int[] {Integer.MIN_VALUE, -1, 8, Integer.MAX_VALUE}) {
            checks.refusesIndex(b, "whole of operator " + o, () -> b.whole(o, 16, -1));
        }
        for (int o = 0; o < 8; o++) {
            int operator = o;
            checks.refusesArgument(b, "whole of operator " + o, () -> b.whole(operator, 0, 4));
        }
        Barrierbrook c = brook();
        int[][] wrong = {{-1, 0}, {16, 0}, {0, -1}, {0, 20001}, {Integer.MAX_VALUE, 0}, {0, Integer.MIN_VALUE}};
        for (int[] w : wrong) {
            checks.refusesArgument(c, "whole(1, " + w[0] + ", " + w[1] + ")", () -> c.whole(1, w[0], w[1]));
        }
        c.event(0, 0, 0, 2, 5);
        c.event(0, 1, 4, 2, 6);
        c.event(0, 1, 5, 2, 100);
        c.event(0, 1, 3, 3, 7);
        checks.same("nothing is taken", c.whole(1, 2, 4), 0);
        c.step(0, 0);
        checks.same("one is taken, and not yet in the window", c.whole(1, 2, 4), 5);
        c.run(20);
        checks.same("all of its hands", c.whole(1, 2, 4), 11);
        checks.same("the next span", c.whole(1, 2, 9), 100);
        checks.same("another key", c.whole(1, 3, 4), 7);
        for (int time : new int[] {0, 3, 5, 8, 10}) checks.same("no span of last time " + time, c.whole(1, 2, time), 0);
        checks.same("the last time of all", c.whole(1, 2, 20000), 0);
        c.crash();
        checks.same("as far as was taken", c.whole(1, 2, 4), 0);
    }

    private static void promise30Changed() {
        Barrierbrook b = new Barrierbrook();
        b.source(1, 100, 10);
        b.change(0, 2, 1);
        b.sift(1, 11);
        b.change(2, -1, 0);
        b.window(3, Barrierbrook.SLIDE, 6, 2, false, 0, 0);
        b.window(3, Barrierbrook.TUMBLE, 6, 0, true, 0, 0);
        b.sink(4);
        b.event(0, 0, 1, 0, 4);
        b.event(0, 0, 1, 0, 5);
        b.event(0, 0, 3, 0, 6);
        b.rule(2, 9999);
        b.run(30);
        checks.same("changed, sifted by the first rule, changed", b.whole(4, 0, 5), -24);
        checks.same("a span from below 0", b.whole(4, 0, 1), -11);
        checks.same("no span", b.whole(4, 0, 2), 0);
        checks.same("counts", b.whole(5, 0, 5), 2);
        b.correct(0, 0, 1, 0);
        b.run(30);
        checks.same("corrected away", b.whole(4, 0, 1), 0);
        checks.same("one is left", b.whole(4, 0, 5), -13);
        checks.same("counts", b.whole(5, 0, 5), 1);
    }

    private static void promise30TooLate() {
        Barrierbrook b = new Barrierbrook();
        b.source(1, 0, 10);
        b.sift(0, 5);
        b.window(1, Barrierbrook.TUMBLE, 10, 0, false, 0, 0);
        b.sink(2);
        b.event(0, 0, 3, 0, 7);
        b.event(0, 0, 2, 0, 100);
        b.event(0, 0, 20, 0, 9);
        b.event(0, 0, 4, 0, 8);
        b.run(30);
        checks.same("too late is taken off", b.whole(2, 0, 9), 107);
        checks.same("and lost", b.lost(2), 1);
        b.rule(1, 0);
        b.run(1);
        b.event(0, 0, 5, 0, 2);
        b.run(30);
        checks.same("also what the first rule does not let by", b.whole(2, 0, 9), 105);
        b.event(0, 0, 6, 0, 6);
        b.step(0, 0);
        checks.same("not as long as it is not counted", b.whole(2, 0, 9), 111);
        b.run(30);
        checks.same("but then", b.whole(2, 0, 9), 105);
        b.correct(0, 0, 3, 6);
        b.run(30);
        checks.same("corrections that are too late", b.whole(2, 0, 9), 105);
        b.crash();
        checks.same("brought back by a crash", b.whole(2, 0, 9), 0);
    }

    private static void promise30Bounds() {
        Barrierbrook b = new Barrierbrook();
        b.source(1, 0, 10);
        b.change(0, 9, 0);
        b.change(1, 9, 0);
        b.change(2, 9, 0);
        b.change(3, -1, 1);
        b.window(4, Barrierbrook.TUMBLE, 10, 0, false, 0, 0);
        b.sink(5);
        b.event(0, 0, 1, 0, 9999);
        b.run(30);
        checks.same("values are bounded on the way", b.whole(5, 0, 9), -999999);
        b.event(0, 0, 2, 0, 9999);
        b.end(0, 0);
        b.run(30);
        b.cut(true);
        checks.same("a sum is told as a bound", b.net(6, 0, 9), -1000000);
        checks.same("as whole tells it", b.whole(5, 0, 9), -1000000);
    }

    private static void promise31Given() {
        Barrierbrook b = brook();
        noSinks(b, "given", b::given);
        checks.same("given at first", b.given(2), 0);
        b.event(0, 0, 1, 0, 5);
        b.event(0, 0, 6, 0, 5);
        b.end(0, 1);
        b.run(20);
        checks.same("given ahead of a cut", b.given(2), 0);
        b.cut(true);
        checks.same("given behind a cut", b.given(2), 1);
        b.crash();
        checks.same("given behind a crash", b.given(2), 1);
        b.end(0, 0);
        b.run(20);
        b.cut(false);
        b.run(20);
        checks.same("given behind another cut", b.given(2), 2);
    }

    private static void promise32GivenAt() {
        Barrierbrook b = brook();
        noSinks(b, "givenAt", o -> b.givenAt(o, 0, 9));
        checks.refusesIndex(b, "givenAt where nothing is given", () -> b.givenAt(2, 0, 0));
        b.event(0, 0, 1, 7, 5);
        b.event(0, 0, 6, 9, -6);
        b.end(0, 0);
        b.end(0, 1);
        b.run(20);
        checks.refusesIndex(b, "givenAt of what is pending", () -> b.givenAt(2, 0, 0));
        b.cut(true);
        int[][] due = {{7, 4, 5, 1}, {9, 9, -6, 1}};
        for (int i = 0; i < 2; i++) {
            for (int what = 0; what < 4; what++) {
                checks.same("givenAt(2, " + i + ", " + what + ")", b.givenAt(2, i, what), due[i][what]);
            }
        }
        for (int place : new int[] {-1, 2, Integer.MIN_VALUE, Integer.MAX_VALUE}) {
            checks.refusesIndex(b, "givenAt of place " + place, () -> b.givenAt(2, place, 4));
        }
        for (int what : new int[] {-1, 4, Integer.MIN_VALUE, Integer.MAX_VALUE}) {
            checks.refusesArgument(b, "givenAt of what " + what, () -> b.givenAt(2, 1, what));
        }
    }

    private static void promise33Pending() {
        Barrierbrook b = new Barrierbrook();
        b.source(1, 0, 10);
        b.sift(0, 0);
        b.sink(0);
        b.source(1, 0, 10);
        noSinks(b, "pending", o -> o == 3 ? b.pending(1) : b.pending(o));
        checks.same("pending at first", b.pending(2), 0);
        b.event(0, 0, 1, 0, 5);
        b.event(0, 0, 2, 0, 5);
        b.run(20);
        checks.same("got", b.pending(2), 2);
        b.cut(false);
        b.step(0, 0);
        b.step(0, 0);
        b.step(2, 0);
        checks.same("kept for a cut that goes on", b.pending(2), 2);
        b.event(0, 0, 3, 0, 5);
        b.step(0, 0);
        b.step(0, 0);
        b.step(2, 0);
        b.step(2, 0);
        checks.same("and got behind", b.pending(2), 3);
        b.run(20);
        checks.same("given out by the cut", b.pending(2), 1);
        b.crash();
        checks.same("gone by a crash", b.pending(2), 0);
    }
}
