/** Promises 17 and 18, and what 'STEPS' in the document tells: out rows, channels, hands, marks and rests. */
public final class StepsTest {
    private static final Checks checks = new Checks("StepsTest");
    private static final int NOTHING = Barrierbrook.NOTHING, WENT_OUT = Barrierbrook.WENT_OUT,
        JOINED = Barrierbrook.JOINED, EVENT = Barrierbrook.EVENT, RESTED = Barrierbrook.RESTED,
        RULES = Barrierbrook.RULES, RECORD = Barrierbrook.RECORD, MARK = Barrierbrook.MARK,
        REST = Barrierbrook.REST, BARRIER = Barrierbrook.BARRIER;

    public static void main(String[] args) {
        promise17Refuses();
        promise17Answers();
        littleRoom();
        roomInAllChannels();
        recordsGoByKeys();
        nothingBehindNobody();
        channelsGoRound();
        channelsOfTwoInputs();
        siftWithRulesFirst();
        marksOfTwoPartitions();
        restsOfTwoPartitions();
        marksGivenAgain();
        promise18Run();
        promise18Order();
        checks.end();
    }

    /** 0 source of so many partitions, 1 sink. */
    private static Barrierbrook plain(int partitions) {
        Barrierbrook b = new Barrierbrook();
        b.source(partitions, 0, 10);
        b.sink(0);
        return b;
    }

    private static void promise17Refuses() {
        Barrierbrook b = plain(2);
        b.rescale(1, 3);
        for (int o : new int[] {-1, 2, 8, Integer.MIN_VALUE, Integer.MAX_VALUE}) {
            checks.refusesIndex(b, "step(" + o + ", 0)", () -> b.step(o, 0));
        }
        for (int h : new int[] {-1, 2, 3, Integer.MIN_VALUE, Integer.MAX_VALUE}) {
            checks.refusesIndex(b, "step(0, " + h + ")", () -> b.step(0, h));
        }
        checks.refusesIndex(b, "step(1, 3)", () -> b.step(1, 3));
        checks.same("a refused step does not make it too late", b.source(1, 0, 1), 2);
        checks.same("step(1, 2)", b.step(1, 2), NOTHING);
    }

    private static void promise17Answers() {
        Barrierbrook b = new Barrierbrook();
        b.source(1, 0, 10);
        b.sift(0, 0);
        b.sink(1);
        b.event(0, 0, 5, 0, 5);
        b.rule(1, 1);
        checks.steps("an event", b, 0, 0, EVENT, WENT_OUT, NOTHING);
        checks.steps("a rule, a record, a mark", b, 1, 0, RULES, RECORD, WENT_OUT, MARK, WENT_OUT, NOTHING);
        checks.steps("the sink", b, 2, 0, RECORD, MARK, WENT_OUT, NOTHING);
        b.tick(10);
        checks.steps("a rest", b, 0, 0, RESTED, WENT_OUT, NOTHING);
        checks.steps("a rest goes on", b, 1, 0, REST, WENT_OUT, NOTHING);
        checks.steps("a rest in the sink", b, 2, 0, REST, WENT_OUT, NOTHING);
        b.cut(false);
        checks.steps("a barrier", b, 0, 0, JOINED, WENT_OUT, NOTHING);
        checks.steps("a barrier goes on", b, 1, 0, BARRIER, WENT_OUT, NOTHING);
        checks.steps("a barrier in the sink", b, 2, 0, BARRIER, WENT_OUT, NOTHING);
        checks.same("the cut is done", b.given(2), 1);
    }

    private static void littleRoom() {
        Barrierbrook b = plain(1);
        for (int i = 1; i <= 4; i++) b.event(0, 0, i, 0, i);
        checks.steps("two events", b, 0, 0, EVENT, WENT_OUT, EVENT, WENT_OUT);
        checks.same("four items wait", b.waiting(1, 0), 4);
        checks.steps("no room", b, 0, 0, EVENT, NOTHING, NOTHING);
        checks.same("two items in the out row", b.outRow(0, 0), 2);
        checks.steps("room for one", b, 1, 0, RECORD);
        checks.steps("one goes out", b, 0, 0, WENT_OUT, NOTHING);
        checks.same("one item in the out row", b.outRow(0, 0), 1);
        checks.same("four items wait again", b.waiting(1, 0), 4);
        b.cut(false);
        b.tick(50);
        checks.steps("nothing else is tried", b, 0, 0, NOTHING);
        checks.steps("the sink", b, 1, 0, MARK, WENT_OUT, RECORD, MARK, WENT_OUT);
        checks.steps("now the barrier, ahead of the next event", b, 0, 0, WENT_OUT, JOINED, WENT_OUT, EVENT);
    }

    private static void roomInAllChannels() {
        Barrierbrook b = new Barrierbrook();
        b.source(1, 0, 10);
        b.sink(0);
        b.sink(0);
        for (int i = 1; i <= 4; i++) b.event(0, 0, i, 0, i);
        checks.steps("two events", b, 0, 0, EVENT, WENT_OUT, EVENT, WENT_OUT, EVENT);
        checks.steps("the first sink takes all", b, 1, 0, RECORD, MARK, WENT_OUT, RECORD, MARK);
        checks.steps("there is no room in the second one", b, 0, 0, NOTHING);
        checks.same("nothing went into the first one", b.waiting(1, 0), 0);
        checks.steps("the second sink takes one", b, 2, 0, RECORD);
        checks.steps("one goes out", b, 0, 0, WENT_OUT);
        checks.same("into the first one", b.waiting(1, 0), 1);
        checks.same("and into the second one", b.waiting(2, 0), 4);
    }

    private static void recordsGoByKeys() {
        int[][] due = {{0, 0, 0}, {4, 0, 0}, {5, 0, 0}, {6, 0, 1}, {7, 0, 1}, {8, 1, 1}, {10, 1, 1}, {11, 1, 2}, {15, 1, 2}};
        for (int[] d : due) {
            for (int hands = 2; hands <= 3; hands++) {
                Barrierbrook b = plain(1);
                b.rescale(1, hands);
                b.event(0, 0, 0, d[0], 1);
                b.step(0, 0);
                b.step(0, 0);
                for (int h = 0; h < hands; h++) {
                    checks.same("key " + d[0] + " in hand " + h + " of " + hands, b.waiting(1, h),
                        h == d[hands - 1] ? 1 : 0);
                }
            }
        }
        Barrierbrook b = plain(1);
        b.rescale(1, 3);
        b.event(0, 0, 9, 0, 1);
        checks.steps("a record and a mark", b, 0, 0, EVENT, WENT_OUT);
        checks.same("record and mark", b.waiting(1, 0), 2);
        checks.same("the mark goes to all hands", b.waiting(1, 1) + b.waiting(1, 2), 2);
        for (int i = 0; i < 3; i++) b.event(0, 0, 9, 15, 1);
        checks.steps("records alone", b, 0, 0, EVENT, WENT_OUT, EVENT, WENT_OUT, EVENT, WENT_OUT);
        checks.same("hand 2 is full", b.waiting(1, 2), 4);
        b.event(0, 0, 9, 0, 1);
        checks.steps("a record for another hand has room", b, 0, 0, EVENT, WENT_OUT);
        b.tick(10);
        checks.steps("a rest has not, as it goes to all", b, 0, 0, RESTED, NOTHING);
    }

    private static void nothingBehindNobody() {
        Barrierbrook b = new Barrierbrook();
        b.source(1, 0, 10);
        for (int i = 1; i <= 9; i++) b.event(0, 0, i, 0, i);
        for (int i = 1; i <= 9; i++) checks.steps("no followers", b, 0, 0, EVENT, WENT_OUT);
        checks.same("all is gone", b.outRow(0, 0), 0);
        Barrierbrook c = plain(1);
        c.event(0, 0, 5, 0, 1);
        c.run(20);
        checks.same("what a sink gives out is gone", c.outRow(1, 0), 0);
        checks.same("its records stay", c.pending(1), 1);
    }

    private static void channelsGoRound() {
        Barrierbrook b = new Barrierbrook();
        b.source(3, 0, 10);
        b.sink(0);
        for (int p = 0; p < 3; p++) {
            for (int i = 0; i < 3; i++) b.event(0, p, 0, p, i);
        }
        for (int p : new int[] {0, 2}) checks.steps("records", b, 0, p, EVENT, WENT_OUT, EVENT, WENT_OUT);
        checks.steps("the first one, the third one, the first one", b, 1, 0, RECORD, RECORD, RECORD);
        checks.steps("a record of the second one", b, 0, 1, EVENT, WENT_OUT);
        checks.steps("the second one, the third one", b, 1, 0, RECORD, RECORD);
        checks.steps("more of all", b, 0, 0, EVENT, WENT_OUT);
        checks.steps("more of all", b, 0, 1, EVENT, WENT_OUT);
        checks.steps("the first one, the second one", b, 1, 0, RECORD, RECORD, NOTHING);
        b.cut(true);
        checks.same("in this order", Checks.given(b, 1),
            "0@0=0+ 2@0=0+ 0@0=1+ 1@0=0+ 2@0=1+ 0@0=2+ 1@0=1+");
    }

    private static void channelsOfTwoInputs() {
        Barrierbrook b = new Barrierbrook();
        b.source(2, 0, 10);
        b.source(1, 0, 10);
        b.join(1, 0, 100);
        b.sink(2);
        b.event(1, 0, 0, 0, 1);
        b.event(0, 0, 0, 0, 10);
        b.event(0, 1, 0, 0, 20);
        for (int i = 0; i < 2; i++) {
            b.step(0, 0);
            b.step(0, 1);
            b.step(1, 0);
        }
        checks.steps("its first input first", b, 2, 0, RECORD);
        checks.same("nothing to join with", b.outRow(2, 0), 0);
        checks.steps("then the hands of the second one", b, 2, 0, RECORD, WENT_OUT, RECORD, WENT_OUT, NOTHING);
        b.run(5);
        b.cut(true);
        checks.same("in this order", Checks.given(b, 3), "0@0=13+ 0@0=23+");
    }

    private static void siftWithRulesFirst() {
        Barrierbrook b = new Barrierbrook();
        b.source(1, 0, 10);
        b.sift(0, 0);
        b.rescale(1, 2);
        b.event(0, 0, 1, 0, 5);
        b.rule(1, 9);
        checks.steps("an event", b, 0, 0, EVENT, WENT_OUT);
        checks.steps("each hand takes rules", b, 1, 0, RULES, RECORD);
        checks.same("by the new rule", b.outRow(1, 0), 0);
        b.rule(1, 1);
        b.rule(1, 2);
        checks.steps("all that it has not taken", b, 1, 1, RULES, MARK);
    }

    private static void marksOfTwoPartitions() {
        Barrierbrook b = plain(2);
        b.event(0, 0, 10, 0, 0);
        b.run(10);
        checks.same("mark of one partition", b.mark(0, 0), 9);
        checks.same("the least of two", b.mark(1, 0), -1);
        b.event(0, 1, 4, 0, 0);
        b.run(10);
        checks.same("the least of two, both told", b.mark(1, 0), 3);
        b.event(0, 1, 20, 0, 0);
        b.run(10);
        checks.same("the other one", b.mark(1, 0), 9);
        b.end(0, 0);
        b.run(10);
        checks.same("behind the end of one", b.mark(1, 0), 19);
        b.end(0, 1);
        b.run(10);
        checks.same("behind the end of both", b.mark(1, 0), 20000);
    }

    private static void restsOfTwoPartitions() {
        Barrierbrook b = plain(2);
        b.event(0, 0, 10, 0, 0);
        b.run(10);
        b.tick(9);
        b.run(10);
        checks.same("not yet at rest", b.mark(1, 0), -1);
        b.tick(1);
        checks.steps("one rests", b, 0, 1, RESTED, WENT_OUT);
        checks.steps("the mark of the other one", b, 1, 0, REST, WENT_OUT);
        checks.same("it is not held up by one at rest", b.mark(1, 0), 9);
        checks.no("the sink does not rest", b.rests(1, 0));
        checks.steps("the other one rests", b, 0, 0, RESTED, WENT_OUT);
        checks.steps("it rests", b, 1, 0, REST);
        checks.yes("the sink rests", b.rests(1, 0));
        checks.same("it gives out a rest", b.outRow(1, 0), 1);
        checks.same("its mark stays", b.mark(1, 0), 9);
        b.step(1, 0);
        b.event(0, 1, 3, 0, 0);
        checks.steps("an event ends the rest", b, 0, 1, EVENT, WENT_OUT);
        checks.steps("a record ends the rest, the mark is given out again", b, 1, 0, RECORD);
        checks.no("it does not rest any more", b.rests(1, 0));
        checks.same("its mark is given out again", b.outRow(1, 0), 1);
        checks.same("its mark stays greater", b.mark(1, 0), 9);
        checks.steps("no more marks", b, 1, 0, WENT_OUT, MARK, NOTHING);
    }

    private static void marksGivenAgain() {
        Barrierbrook b = plain(1);
        b.event(0, 0, 10, 0, 0);
        b.run(10);
        b.tick(10);
        b.run(10);
        checks.yes("it rests", b.rests(1, 0));
        b.event(0, 0, 4, 0, 0);
        checks.steps("no new mark", b, 0, 0, EVENT);
        checks.same("record and mark so far", b.outRow(0, 0), 2);
        b.step(0, 0);
        checks.steps("a record ends the rest", b, 1, 0, RECORD);
        checks.same("the mark is given out again", b.outRow(1, 0), 1);
        checks.steps("the mark is not new", b, 1, 0, WENT_OUT, MARK, NOTHING);
        b.tick(10);
        b.run(10);
        b.event(0, 0, 12, 0, 0);
        checks.steps("a new mark", b, 0, 0, EVENT);
        checks.same("record and new mark", b.outRow(0, 0), 2);
        checks.same("the new mark", b.mark(0, 0), 11);
        b.run(10);
        b.tick(10);
        b.run(10);
        b.end(0, 0);
        checks.steps("the end", b, 0, 0, EVENT);
        checks.no("the end ends the rest", b.rests(0, 0));
        checks.same("the mark of the end", b.outRow(0, 0), 1);
        b.run(10);
        checks.no("the sink does not rest", b.rests(1, 0));
        checks.same("the sink's mark", b.mark(1, 0), 20000);
    }

    private static void promise18Run() {
        Barrierbrook b = plain(1);
        for (int r : new int[] {0, 51, -1, Integer.MIN_VALUE, Integer.MAX_VALUE}) {
            checks.refusesArgument(b, "run(" + r + ")", () -> b.run(r));
        }
        b.event(0, 0, 5, 0, 1);
        checks.same("the event", b.run(1), 1);
        checks.same("it goes out, and the sink takes it", b.run(1), 2);
        checks.same("the sink takes the mark", b.run(1), 1);
        checks.same("the mark goes out", b.run(1), 1);
        checks.same("nothing more", b.run(50), 0);
        b.event(0, 0, 6, 0, 1);
        checks.same("all at once", b.run(50), 5);
    }

    private static void promise18Order() {
        Barrierbrook b = plain(2);
        b.rescale(1, 2);
        b.event(0, 1, 0, 0, 1);
        b.event(0, 0, 0, 8, 2);
        b.event(0, 0, 0, 0, 3);
        checks.same("hands by rising numbers", b.run(1), 2);
        checks.same("sources, then sinks", b.run(1), 4);
        b.run(9);
        b.cut(true);
        checks.same("hands by rising numbers", Checks.given(b, 1), "0@0=1+ 8@0=2+ 0@0=3+");
    }
}
