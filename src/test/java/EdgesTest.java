/**
 * Edges that single sentences of the document name, and that the tests by promises do not look at by themselves;
 * the comment of a method tells the sentence.
 */
public final class EdgesTest {
    private static final Checks checks = new Checks("EdgesTest");
    private static final int NOTHING = Barrierbrook.NOTHING, WENT_OUT = Barrierbrook.WENT_OUT,
        JOINED = Barrierbrook.JOINED, EVENT = Barrierbrook.EVENT, RESTED = Barrierbrook.RESTED,
        RULES = Barrierbrook.RULES, RECORD = Barrierbrook.RECORD, MARK = Barrierbrook.MARK,
        REST = Barrierbrook.REST, BARRIER = Barrierbrook.BARRIER;

    public static void main(String[] args) {
        graph();
        steps();
        marks();
        windows();
        wholes();
        joinsTablesPatterns();
        cuts();
        isStuck();
        checks.end();
    }

    private static void graph() {
        oneHandAtFirst();
        noInputGoesAheadOfTooLate();
        tooLateBehindACorrection();
        longOutRow();
        sameTables();
    }

    private static void steps() {
        roomForTheKeyAlone();
        barrierNeedsRoomEverywhere();
        blockedSiftTakesNoRules();
        twentiethRule();
        patience();
        patienceWithCutsAndEnds();
        barrierAheadOfARest();
    }

    private static void marks() {
        delay();
        recordEndsTheRest();
        dueAheadOfTheMark();
        recordAheadOfTheMark();
    }

    private static void windows() {
        sessionFromTheFirstBeginning();
        sessionApart();
        sessionClosed();
        sessionGone(100);
        sessionGone(151);
        risingEnds();
        bunchOfOne();
        slideClosed();
        countOfZeroWithTheSumThatWasTold();
        countBelowNothing();
        toldAtTheBound();
        earlyBehindTheMark();
        dueOneByOne();
    }

    private static void wholes() {
        wholeOfOneTime();
        wholeOfThreePartitions();
        wholeOfCountsTooLate();
        wholeOfNothingLeft();
        wholeBelowNothing();
        wholeAtTheBound();
    }

    private static void joinsTablesPatterns() {
        joinOfOneTime();
        joinForgets();
        tableWaits();
        tableWithoutWaiting();
        patternRowsByKeys();
        patternBetweenBounds();
        tablePassesOverTheSign();
        patternPassesOverTheSign();
        nothingWaitsBehindRescale();
    }

    private static void cuts() {
        nextIsBroughtBack();
        greatestTimeIsBroughtBack();
        endsAreBroughtBack();
        overtakenMarks();
        overtakenRests();
        marksOfTheSecondInput();
        behindTheBarriersAllIsEmpty();
        ticksBehindRescale();
        followersByTheSecondInput();
    }

    /** 0 source of so many partitions with no delay and a patience of 10, 1 sink. */
    private static Barrierbrook plain(int partitions) {
        Barrierbrook b = new Barrierbrook();
        b.source(partitions, 0, 10);
        b.sink(0);
        return b;
    }

    /** 0 source, 1 window, 2 sink. */
    private static Barrierbrook windowed(int kind, int size, int slide, boolean counts, int lateness, int early) {
        Barrierbrook b = new Barrierbrook();
        b.source(1, 0, 100);
        b.window(0, kind, size, slide, counts, lateness, early);
        b.sink(1);
        return b;
    }

    /** 0 source, 1 source, 2 join, 3 sink. */
    private static Barrierbrook joined(int reach) {
        Barrierbrook b = new Barrierbrook();
        b.source(1, 0, 100);
        b.source(1, 0, 100);
        b.join(0, 1, reach);
        b.sink(2);
        return b;
    }

    /** Tells an event of partition 0, and lets it flow through. */
    private static void tell(Barrierbrook b, int source, int time, int key, int value) {
        b.event(source, 0, time, key, value);
        b.run(20);
    }

    /** What a sink gets by now, behind what it has given out. */
    private static void gets(String what, Barrierbrook b, int sink, String due) {
        int from = b.given(sink);
        b.run(30);
        b.cut(true);
        checks.same(what, Checks.given(b, sink, from), due);
    }

    /** A cut that aligns, gone through to its end. */
    private static void align(Barrierbrook b) {
        b.cut(false);
        b.run(50);
        checks.same("a cut that aligns is done", b.joined(), -1);
    }

    /** 'a source has one for each of its partitions, another operator one at first' */
    private static void oneHandAtFirst() {
        Barrierbrook b = new Barrierbrook();
        b.source(3, 0, 1);
        b.sift(0, 0);
        b.change(0, 1, 0);
        b.window(0, Barrierbrook.TUMBLE, 1, 0, false, 0, 0);
        b.join(0, 1, 0);
        b.table(0, 1);
        b.pattern(0, 0, 0, 1, 0);
        b.sink(0);
        checks.same("hands of a source", b.hands(0), 3);
        for (int o = 1; o < 8; o++) checks.same("hands of operator " + o, b.hands(o), 1);
    }

    /** 'If several exceptions apply, the one that is documented first is thrown.' */
    private static void noInputGoesAheadOfTooLate() {
        Barrierbrook b = plain(1);
        b.run(1);
        for (int none : new int[] {-1, 1, 2, 8}) {
            checks.refusesIndex(b, "sift of " + none, () -> b.sift(none, 0));
            checks.refusesIndex(b, "change of " + none, () -> b.change(none, 0, 0));
            checks.refusesIndex(b, "window of " + none, () -> b.window(none, 0, 1, 0, false, 0, 0));
            checks.refusesIndex(b, "join of " + none + " and 0", () -> b.join(none, 0, 0));
            checks.refusesIndex(b, "join of 0 and " + none, () -> b.join(0, none, 0));
            checks.refusesIndex(b, "table of " + none + " and 0", () -> b.table(none, 0));
            checks.refusesIndex(b, "table of 0 and " + none, () -> b.table(0, none));
            checks.refusesIndex(b, "pattern of " + none, () -> b.pattern(none, 0, 0, 1, 0));
            checks.refusesIndex(b, "sink of " + none, () -> b.sink(none));
        }
    }

    /** 'for adding it is too late as soon as an event ... was told' */
    private static void tooLateBehindACorrection() {
        Barrierbrook b = plain(1);
        b.event(0, 0, 0, 0, 0);
        b.correct(0, 0, 0, 1);
        checks.refusesState(b, "source behind a correction", () -> b.source(1, 0, 1));
    }

    /** 'Each hand also has an out row, in which any number of items wait.' */
    private static void longOutRow() {
        Barrierbrook b = joined(100);
        for (int i = 0; i < 59; i++) b.event(1, 0, 0, 0, i);
        b.run(50);
        b.run(50);
        b.run(50);
        b.event(0, 0, 0, 0, 0);
        checks.steps("the first input", b, 0, 0, EVENT, WENT_OUT);
        checks.steps("is joined with all of the second one", b, 2, 0, RECORD);
        checks.same("all wait", b.outRow(2, 0), 59);
        checks.steps("four go out", b, 2, 0, WENT_OUT, NOTHING);
        checks.same("the others wait", b.outRow(2, 0), 55);
        checks.same("four are in the channel", b.waiting(3, 0), 4);
        b.run(50);
        b.run(50);
        b.cut(true);
        checks.same("all come", b.given(3), 59);
        for (int i = 0; i < 59; i++) checks.same("record " + i + " in its place", b.givenAt(3, i, 2), i);
    }

    /** 'They do if ... their inputs do the same, first and first, second and second.' */
    private static void sameTables() {
        Barrierbrook b = new Barrierbrook();
        b.source(1, 0, 1);
        b.source(1, 0, 1);
        b.sift(0, 5);
        b.sift(0, 5);
        b.table(2, 1);
        b.table(3, 1);
        b.table(2, 0);
        b.table(0, 1);
        checks.yes("TABLE of inputs that do the same", b.isSame(4, 5));
        checks.no("TABLE with another second input", b.isSame(4, 6));
        checks.no("TABLE with another first input", b.isSame(4, 7));
    }

    /** 'a record goes, for each follower, into the channel to the hand to which its key belongs' */
    private static void roomForTheKeyAlone() {
        Barrierbrook b = plain(1);
        b.rescale(1, 2);
        for (int i = 0; i < 4; i++) b.event(0, 0, 0, 0, i);
        b.event(0, 0, 9, 15, 9);
        for (int i = 0; i < 4; i++) checks.steps("hand 0 becomes full", b, 0, 0, EVENT, WENT_OUT);
        checks.steps("a record for hand 1, and a mark for both", b, 0, 0, EVENT, WENT_OUT, NOTHING);
        checks.same("the mark waits", b.outRow(0, 0), 1);
        checks.same("the record is with hand 1", b.waiting(1, 1), 1);
        checks.steps("room for the mark", b, 1, 0, RECORD);
        checks.steps("it goes out", b, 0, 0, WENT_OUT, NOTHING);
        checks.same("to hand 0", b.waiting(1, 0), 4);
        checks.same("and to hand 1", b.waiting(1, 1), 2);
    }

    /** 'all other items go into the channels to all hands of all followers; there must be room in all of these' */
    private static void barrierNeedsRoomEverywhere() {
        Barrierbrook b = plain(1);
        b.sink(0);
        b.rescale(1, 2);
        for (int i = 0; i < 4; i++) b.event(0, 0, 0, 0, i);
        for (int i = 0; i < 4; i++) {
            checks.steps("a record", b, 0, 0, EVENT, WENT_OUT);
            checks.steps("is taken by one sink", b, 2, 0, RECORD);
        }
        b.cut(false);
        checks.steps("the barrier has no room", b, 0, 0, JOINED, NOTHING);
        checks.same("it waits", b.outRow(0, 0), 1);
        checks.same("it is not with the other hand", b.waiting(1, 1), 0);
        checks.same("nor with the other follower", b.waiting(2, 0), 0);
        checks.steps("room for it", b, 1, 0, RECORD);
        checks.steps("it goes out", b, 0, 0, WENT_OUT);
        checks.same("to the hand that was full", b.waiting(1, 0), 4);
        checks.same("to the other hand", b.waiting(1, 1), 1);
        checks.same("and to the other follower", b.waiting(2, 0), 1);
    }

    /** 'If none goes out, the step does nothing, and nothing else is tried.' */
    private static void blockedSiftTakesNoRules() {
        Barrierbrook b = new Barrierbrook();
        b.source(1, 0, 10);
        b.sift(0, 0);
        b.sink(1);
        for (int i = 0; i < 5; i++) b.event(0, 0, 0, 0, i);
        for (int i = 0; i < 5; i++) {
            checks.steps("a record", b, 0, 0, EVENT, WENT_OUT);
            checks.steps("goes through", b, 1, 0, RECORD, i < 4 ? WENT_OUT : NOTHING);
        }
        b.rule(1, 1);
        checks.steps("a rule is not taken", b, 1, 0, NOTHING);
        checks.steps("room for the record", b, 2, 0, RECORD);
        checks.steps("now it is", b, 1, 0, WENT_OUT, RULES, NOTHING);
    }

    /** 'A hand of a SIFT takes all rules that were told ...: the last one is its rule', up to the 20th one. */
    private static void twentiethRule() {
        Barrierbrook b = new Barrierbrook();
        b.source(1, 0, 10);
        b.sift(0, 9999);
        b.sink(1);
        for (int i = 1; i < 20; i++) b.rule(1, 9999);
        b.rule(1, 3);
        b.event(0, 0, 0, 0, 2);
        b.event(0, 0, 0, 0, 3);
        gets("by the 20th rule", b, 2, "0@0=3+");
    }

    /** 'the ticks since its last step by 3 (or since the beginning) are at least the patience of the source' */
    private static void patience() {
        for (int patience : new int[] {1, 2, 99, 100}) {
            Barrierbrook b = new Barrierbrook();
            b.source(1, 0, patience);
            if (patience > 1) b.tick(patience - 1);
            checks.steps("ahead of a patience of " + patience, b, 0, 0, NOTHING);
            b.tick(1);
            checks.steps("a patience of " + patience, b, 0, 0, RESTED);
            b.event(0, 0, 0, 0, 0);
            checks.steps("an event", b, 0, 0, WENT_OUT, EVENT, WENT_OUT);
            if (patience > 1) b.tick(patience - 1);
            checks.steps("ahead of a patience behind an event", b, 0, 0, NOTHING);
            b.tick(1);
            checks.steps("a patience behind an event", b, 0, 0, RESTED);
        }
    }

    /** 'if it has not, and there is nothing to take, its end was not taken' */
    private static void patienceWithCutsAndEnds() {
        Barrierbrook b = plain(1);
        b.event(0, 0, 0, 0, 0);
        checks.steps("an event", b, 0, 0, EVENT, WENT_OUT);
        b.tick(7);
        b.cut(false);
        checks.steps("a barrier", b, 0, 0, JOINED, WENT_OUT);
        b.tick(3);
        checks.steps("joining does not count as a step by 3", b, 0, 0, RESTED);
        Barrierbrook c = plain(1);
        c.tick(10);
        c.cut(false);
        c.end(0, 0);
        checks.steps("a barrier first, then the end in place of a rest", c, 0, 0, JOINED, WENT_OUT, EVENT, WENT_OUT);
        c.tick(10);
        checks.steps("no rest behind the end", c, 0, 0, NOTHING);
        checks.no("it does not rest", c.rests(0, 0));
    }

    /** 'When a hand steps, the first of these is done that is possible': a barrier, an event, a rest. */
    private static void barrierAheadOfARest() {
        Barrierbrook b = plain(1);
        b.tick(10);
        b.cut(false);
        checks.steps("a barrier, then a rest", b, 0, 0, JOINED, WENT_OUT, RESTED, WENT_OUT, NOTHING);
        Barrierbrook c = plain(1);
        c.tick(10);
        c.cut(false);
        c.event(0, 0, 0, 0, 0);
        checks.steps("a barrier, then an event, no rest", c, 0, 0, JOINED, WENT_OUT, EVENT, WENT_OUT, NOTHING);
        c.tick(10);
        checks.steps("then a rest", c, 0, 0, RESTED, WENT_OUT, NOTHING);
    }

    /** 'less the delay of the source, less 1, is a new mark, ... if it is greater than its mark so far' */
    private static void delay() {
        for (int delay : new int[] {0, 1, 99, 100}) {
            Barrierbrook b = new Barrierbrook();
            b.source(1, delay, 1);
            int[] times = {delay, delay + 1, delay + 1, 9999, 9998};
            int[] marks = {-1, 0, 0, 9998 - delay, 9998 - delay};
            for (int i = 0; i < times.length; i++) {
                b.event(0, 0, times[i], 0, 0);
                checks.steps("an event", b, 0, 0, EVENT);
                checks.same("mark of time " + times[i] + " with delay " + delay, b.mark(0, 0), marks[i]);
                boolean isNew = i == 1 || i == 3;
                checks.same("given out if it is new", b.outRow(0, 0), isNew ? 2 : 1);
                b.step(0, 0);
            }
        }
    }

    /** 'A record that is taken from it ends its rest' */
    private static void recordEndsTheRest() {
        Barrierbrook b = plain(2);
        b.tick(10);
        checks.steps("partition 1 rests", b, 0, 1, RESTED, WENT_OUT);
        checks.steps("the sink hears of it", b, 1, 0, REST);
        b.event(0, 0, 10, 0, 0);
        b.event(0, 0, 20, 0, 0);
        b.event(0, 1, 0, 0, 0);
        checks.steps("partition 0", b, 0, 0, EVENT, WENT_OUT);
        checks.steps("its mark alone counts", b, 1, 0, RECORD, MARK, WENT_OUT);
        checks.same("mark", b.mark(1, 0), 9);
        checks.steps("partition 0", b, 0, 0, EVENT, WENT_OUT);
        checks.steps("its record", b, 1, 0, RECORD);
        checks.steps("partition 1, with its mark so far", b, 0, 1, EVENT, WENT_OUT);
        checks.steps("its record, then the mark of partition 0", b, 1, 0, RECORD, MARK);
        checks.same("the mark of partition 1 counts again", b.mark(1, 0), 9);
        checks.steps("the mark so far of partition 1", b, 1, 0, MARK, NOTHING);
        checks.same("and is no greater", b.mark(1, 0), 9);
    }

    /** 'what is due by it is done, and it is given out as a mark behind all that' */
    private static void dueAheadOfTheMark() {
        Barrierbrook b = new Barrierbrook();
        b.source(1, 0, 100);
        b.source(1, 0, 100);
        b.window(0, Barrierbrook.TUMBLE, 10, 0, false, 100, 0);
        b.table(0, 1);
        b.pattern(0, 0, 5, 1, 100);
        b.sink(2);
        b.sink(3);
        b.sink(4);
        tell(b, 1, 0, 0, 1);
        tell(b, 0, 8, 0, 4);
        tell(b, 0, 9, 0, 5);
        b.end(1, 0);
        b.run(9);
        b.event(0, 0, 20, 9, 0);
        checks.steps("a record and a mark", b, 0, 0, EVENT, WENT_OUT);
        for (int o = 2; o <= 4; o++) {
            checks.steps("by the mark", b, o, 0, RECORD, MARK);
            checks.same("what is due and the mark", b.outRow(o, 0), 2);
            checks.steps("they go out", b, o, 0, WENT_OUT);
            checks.steps("what is due, then the mark", b, o + 3, 0, RECORD, MARK);
            checks.same("the mark", b.mark(o + 3, 0), 19);
        }
        b.cut(true);
        checks.same("of the WINDOW", Checks.given(b, 5), "0@9=9+");
        checks.same("of the TABLE", Checks.given(b, 6), "0@8=13+ 0@9=16+");
        checks.same("of the PATTERN", Checks.given(b, 7), "0@9=5+");
    }

    /** 'What a record brings is done ahead of all this.' */
    private static void recordAheadOfTheMark() {
        Barrierbrook b = new Barrierbrook();
        b.source(2, 0, 10);
        b.window(0, Barrierbrook.TUMBLE, 10, 0, false, 0, 0);
        b.sink(1);
        tell(b, 0, 10, 1, 7);
        checks.same("partition 1 holds the mark back", b.mark(1, 0), -1);
        b.tick(10);
        checks.steps("partition 0 rests", b, 0, 0, RESTED, WENT_OUT);
        checks.steps("the window hears of it", b, 1, 0, REST, NOTHING);
        checks.steps("partition 1 rests", b, 0, 1, RESTED, WENT_OUT);
        checks.steps("the window rests", b, 1, 0, REST, WENT_OUT);
        checks.steps("and so the sink", b, 2, 0, REST, WENT_OUT);
        b.event(0, 0, 3, 0, 5);
        checks.steps("partition 0 wakes up", b, 0, 0, EVENT, WENT_OUT);
        checks.steps("a record by which the mark becomes greater", b, 1, 0, RECORD);
        checks.same("it is the mark of partition 0 alone", b.mark(1, 0), 9);
        checks.same("the record was not too late", b.lost(1), 0);
        checks.steps("what it brings goes ahead of the mark", b, 1, 0, WENT_OUT);
        checks.steps("both come, and the record wakes up the sink", b, 2, 0, RECORD, WENT_OUT, MARK, WENT_OUT, NOTHING);
        checks.steps("the mark again is no greater", b, 1, 0, MARK, NOTHING);
        gets("its span is told", b, 2, "0@9=5+");
    }

    /** 'these become one span, from the first beginning to the last end' */
    private static void sessionFromTheFirstBeginning() {
        Barrierbrook b = windowed(Barrierbrook.SESSION, 5, 0, true, 100, 1);
        tell(b, 0, 10, 0, 0);
        tell(b, 0, 12, 0, 0);
        gets("from 10 to 17", b, 2, "0@14=1+ 0@14=1- 0@16=2+");
        tell(b, 0, 5, 0, 0);
        gets("it touches 10", b, 2, "0@16=2- 0@16=3+");
        tell(b, 0, 17, 0, 0);
        gets("it touches 17", b, 2, "0@16=3- 0@21=4+");
        tell(b, 0, 0, 0, 0);
        gets("it touches 5", b, 2, "0@21=4- 0@21=5+");
    }

    /** 'that is joined with all spans of its key which it meets or touches' */
    private static void sessionApart() {
        Barrierbrook b = windowed(Barrierbrook.SESSION, 5, 0, true, 100, 1);
        tell(b, 0, 10, 0, 0);
        tell(b, 0, 4, 0, 0);
        gets("the one from 4 does not touch 10", b, 2, "0@14=1+ 0@8=1+");
        tell(b, 0, 16, 0, 0);
        gets("the one from 16 does not touch 15", b, 2, "0@20=1+");
        tell(b, 0, 9, 0, 0);
        gets("the one from 9 meets 10 and touches 9", b, 2, "0@8=1- 0@14=1- 0@14=3+");
        tell(b, 0, 10, 1, 0);
        gets("another key", b, 2, "1@14=1+");
    }

    /** 'it is closed when the mark is at least its last time and the lateness together' */
    private static void sessionClosed() {
        Barrierbrook b = windowed(Barrierbrook.SESSION, 5, 0, false, 10, 0);
        tell(b, 0, 31, 9, 0);
        checks.same("the mark", b.mark(1, 0), 30);
        tell(b, 0, 16, 0, 1);
        gets("last time 20 and lateness 10 are 30", b, 2, "");
        checks.same("so it is lost", b.lost(1), 1);
        tell(b, 0, 17, 0, 2);
        gets("last time 21 and lateness 10 are more", b, 2, "0@21=2+");
        checks.same("so it is not lost", b.lost(1), 1);
    }

    /** 'Spans that are closed are gone behind that; what they told stays.' */
    private static void sessionGone(int time) {
        Barrierbrook b = new Barrierbrook();
        b.source(1, 0, 100);
        b.sift(0, 0);
        b.window(1, Barrierbrook.SESSION, 100, 0, false, 0, 0);
        b.sink(2);
        tell(b, 0, 0, 0, 1);
        tell(b, 0, time, 0, -1);
        gets("a span that is closed by mark " + (time - 1), b, 3, "0@99=1+");
        tell(b, 0, 100, 0, 2);
        b.end(0, 0);
        gets("the next one is alone", b, 3, "0@199=2+");
        checks.same("what it told stays", b.net(3, 0, 99), 1);
    }

    /** 'by rising ends, of the same end by rising keys' */
    private static void risingEnds() {
        Barrierbrook b = windowed(Barrierbrook.SESSION, 5, 0, false, 0, 0);
        tell(b, 0, 3, 1, 1);
        tell(b, 0, 4, 0, 2);
        tell(b, 0, 2, 15, 3);
        tell(b, 0, 3, 0, 4);
        tell(b, 0, 2, 2, 5);
        b.end(0, 0);
        gets("ends, then keys", b, 2, "2@6=5+ 15@6=3+ 1@7=1+ 0@8=6+");
    }

    /** 'when its count is the size, it tells its sum ..., and both become 0' */
    private static void bunchOfOne() {
        Barrierbrook b = windowed(Barrierbrook.BUNCH, 1, 0, false, 0, 0);
        tell(b, 0, 5, 0, 5);
        tell(b, 0, 6, 0, -6);
        gets("each record by itself", b, 2, "0@5=5+ 0@6=-6+");
        b.correct(0, 0, 0, 7);
        b.run(20);
        gets("a count of -1, then of 0", b, 2, "");
        tell(b, 0, 1, 0, 1);
        gets("a count of 1 again", b, 2, "0@1=3+");
        Barrierbrook c = windowed(Barrierbrook.BUNCH, 60, 0, true, 0, 0);
        for (int i = 0; i < 59; i++) c.event(0, 0, 0, 0, 1);
        c.run(50);
        c.run(50);
        c.run(50);
        gets("59 of 60", c, 2, "");
        tell(c, 0, 3, 0, 1);
        gets("60 of 60", c, 2, "0@3=60+");
    }

    /** 'A span whose count is 0 tells nothing', but one whose count is below 0 does. */
    private static void countBelowNothing() {
        Barrierbrook b = new Barrierbrook();
        b.source(1, 0, 100);
        b.sift(0, 5);
        b.window(1, Barrierbrook.TUMBLE, 10, 0, false, 100, 0);
        b.window(1, Barrierbrook.SESSION, 10, 0, true, 100, 0);
        b.sink(2);
        b.sink(3);
        tell(b, 0, 3, 0, 4);
        b.rule(1, 0);
        b.run(1);
        b.correct(0, 0, 0, -1);
        b.run(20);
        tell(b, 0, 50, 9, 0);
        gets("the sign -1 alone came through: a sum", b, 4, "0@9=-4+");
        checks.same("and a count", Checks.given(b, 5), "0@12=-1+");
        tell(b, 0, 3, 0, 6);
        gets("a count of 0 takes back", b, 4, "0@9=-4-");
        checks.same("both", Checks.given(b, 5), "0@12=-1+ 0@12=-1-");
        tell(b, 0, 3, 0, 7);
        gets("a count of 1", b, 4, "0@9=9+");
    }

    /** 'that value' is the value of the record that it told, within the bounds. */
    private static void toldAtTheBound() {
        for (int side = -1; side <= 1; side += 2) {
            Barrierbrook b = new Barrierbrook();
            b.source(1, 0, 100);
            for (int i = 0; i < 3; i++) b.change(i, 9, 0);
            b.window(3, Barrierbrook.TUMBLE, 10, 0, false, 100, 2);
            b.sink(4);
            String told = "0@9=" + side * 1000000;
            tell(b, 0, 1, 0, side * 9999);
            tell(b, 0, 2, 0, side * 9999);
            gets("a sum of twice the bound", b, 5, told + "+");
            tell(b, 0, 3, 0, side * 9999);
            gets("one record since it told", b, 5, "");
            tell(b, 0, 30, 9, 0);
            gets("when it is over it would tell just that", b, 5, "");
            tell(b, 0, 4, 0, -side * 9999);
            gets("a late record lets it take back, and tell", b, 5, told + "- " + told + "+");
            tell(b, 0, 4, 0, -side * 9999);
            tell(b, 0, 4, 0, -side * 9999);
            gets("down to nothing", b, 5, told + "- " + told + "+ " + told + "- 0@9=0+");
        }
    }

    /** 'if it is over, or if early answers are wanted and at least as many records came' */
    private static void earlyBehindTheMark() {
        Barrierbrook b = windowed(Barrierbrook.TUMBLE, 10, 0, true, 100, 100);
        tell(b, 0, 1, 0, 5);
        tell(b, 0, 30, 9, 0);
        gets("it is over", b, 2, "0@9=1+");
        tell(b, 0, 2, 0, 5);
        gets("each record behind that lets it tell", b, 2, "0@9=1- 0@9=2+");
        b.correct(0, 0, 0, 6);
        b.run(20);
        gets("each part of a correction, too", b, 2, "0@9=2- 0@9=1+ 0@9=1- 0@9=2+");
    }

    /** 'by rising ends, of the same end by rising keys': each takes back, and tells, ahead of the next one. */
    private static void dueOneByOne() {
        Barrierbrook b = windowed(Barrierbrook.SLIDE, 10, 5, false, 0, 2);
        for (int key = 1; key >= 0; key--) {
            for (int i = 0; i < 3; i++) tell(b, 0, 5, key, 1 + key);
        }
        gets("two of three", b, 2, "1@9=4+ 1@14=4+ 0@9=2+ 0@14=2+");
        b.end(0, 0);
        gets("what differs", b, 2, "0@9=2- 0@9=3+ 1@9=4- 1@9=6+ 0@14=2- 0@14=3+ 1@14=4- 1@14=6+");
    }

    /** 'A record is too late for a span that is closed' and 'It is lost, if it is added to none.' */
    private static void slideClosed() {
        Barrierbrook b = windowed(Barrierbrook.SLIDE, 6, 3, false, 2, 0);
        tell(b, 0, 8, 1, 0);
        checks.same("the mark", b.mark(1, 0), 7);
        tell(b, 0, 2, 0, 1);
        gets("last time 5 and lateness 2 are 7", b, 2, "");
        checks.same("so it is lost", b.lost(1), 1);
        tell(b, 0, 3, 0, 2);
        checks.same("last time 8 and lateness 2 are more", b.lost(1), 1);
        tell(b, 0, 9, 1, 0);
        gets("it is in that one alone", b, 2, "0@8=2+ 1@8=0+");
    }

    /** 'take back what they told, if that differs from what they tell now, or they have a count of 0' */
    private static void countOfZeroWithTheSumThatWasTold() {
        Barrierbrook b = new Barrierbrook();
        b.source(1, 0, 100);
        b.sift(0, 5);
        b.change(1, 0, 0);
        b.window(2, Barrierbrook.TUMBLE, 10, 0, false, 0, 3);
        b.sink(3);
        tell(b, 0, 1, 0, 5);
        b.correct(0, 0, 0, 0);
        tell(b, 0, 1, 0, 6);
        gets("a sum of 0 by the third record", b, 4, "0@9=0+");
        b.correct(0, 0, 3, 0);
        gets("a count of 0 by the next one", b, 4, "");
        b.end(0, 0);
        gets("the sum is the same, but it is taken back", b, 4, "0@9=0-");
        Barrierbrook c = windowed(Barrierbrook.TUMBLE, 10, 0, false, 0, 1);
        tell(c, 0, 1, 0, 5);
        c.end(0, 0);
        gets("the same sum with a count is not", c, 2, "0@9=5+");
    }

    /** 'time: 0 to 20000: the last time of the span' */
    private static void wholeOfOneTime() {
        Barrierbrook b = windowed(Barrierbrook.TUMBLE, 1, 0, false, 0, 0);
        tell(b, 0, 0, 0, 5);
        tell(b, 0, 9999, 15, 7);
        checks.same("the first time", b.whole(1, 0, 0), 5);
        checks.same("the next one", b.whole(1, 0, 1), 0);
        checks.same("the last time of an event", b.whole(1, 15, 9999), 7);
        checks.same("the one behind it", b.whole(1, 15, 10000), 0);
        checks.same("the last one of all", b.whole(1, 15, 20000), 0);
        Barrierbrook c = windowed(Barrierbrook.SLIDE, 100, 34, false, 0, 0);
        tell(c, 0, 0, 0, 5);
        tell(c, 0, 32, 0, 6);
        tell(c, 0, 9999, 0, 7);
        checks.same("the span from -68", c.whole(1, 0, 31), 5);
        checks.same("the span from -34", c.whole(1, 0, 65), 11);
        checks.same("the span from -34, less 1", c.whole(1, 0, 64), 0);
        checks.same("the span from 0", c.whole(1, 0, 99), 11);
        checks.same("the last span with 9999", c.whole(1, 0, 9996 + 99), 7);
        checks.same("the one behind it", c.whole(1, 0, 9996 + 34 + 99), 0);
    }

    /** 'from all events that the hands of its source have taken so far' */
    private static void wholeOfThreePartitions() {
        Barrierbrook b = new Barrierbrook();
        b.source(3, 0, 10);
        b.window(0, Barrierbrook.TUMBLE, 5, 0, false, 0, 0);
        for (int p = 0; p < 3; p++) b.event(0, p, p, 0, 1 << p);
        int due = 0;
        for (int p = 2; p >= 0; p--) {
            checks.steps("an event", b, 0, p, EVENT);
            due += 1 << p;
            checks.same("partitions down to " + p, b.whole(1, 0, 4), due);
        }
    }

    /** 'what was too late for that span, as it was counted so far, is taken off' */
    private static void wholeOfCountsTooLate() {
        Barrierbrook b = windowed(Barrierbrook.TUMBLE, 10, 0, true, 0, 0);
        tell(b, 0, 3, 0, 7);
        tell(b, 0, 4, 0, 7);
        tell(b, 0, 20, 0, 7);
        checks.same("two", b.whole(1, 0, 9), 2);
        tell(b, 0, 5, 0, 7);
        checks.same("and one too late", b.whole(1, 0, 9), 2);
        gets("as it was told", b, 2, "0@9=2+");
    }

    /** 0 source, 1 sift of at least 5 at first and then of all, 2 window of sums, 3 window of counts. */
    private static Barrierbrook withARuleThatLetsAllBy() {
        Barrierbrook b = new Barrierbrook();
        b.source(1, 0, 100);
        b.sift(0, 5);
        b.window(1, Barrierbrook.TUMBLE, 10, 0, false, 0, 0);
        b.window(1, Barrierbrook.TUMBLE, 10, 0, true, 0, 0);
        b.rule(1, -9999);
        b.run(1);
        return b;
    }

    /** 'Returns what it tells; 0 if it tells nothing' */
    private static void wholeOfNothingLeft() {
        Barrierbrook b = withARuleThatLetsAllBy();
        tell(b, 0, 3, 0, 7);
        tell(b, 0, 20, 0, 7);
        checks.same("a sum", b.whole(2, 0, 9), 7);
        tell(b, 0, 4, 0, 2);
        checks.same("a sum of 5 with a count of 0", b.whole(2, 0, 9), 0);
        checks.same("a count of 0", b.whole(3, 0, 9), 0);
    }

    /** 'is taken off, whether the first rules let it by or not' */
    private static void wholeBelowNothing() {
        Barrierbrook b = withARuleThatLetsAllBy();
        tell(b, 0, 20, 0, 7);
        tell(b, 0, 4, 0, 2);
        checks.same("a sum with a count of -1", b.whole(2, 0, 9), -2);
        checks.same("a count of -1", b.whole(3, 0, 9), -1);
    }

    /** 'A value that would be below -1000000 or above 1000000 when a record is given out is that bound.' */
    private static void wholeAtTheBound() {
        Barrierbrook b = new Barrierbrook();
        b.source(1, 0, 100);
        for (int i = 0; i < 3; i++) b.change(i, 9, 0);
        b.window(3, Barrierbrook.TUMBLE, 10, 0, false, 0, 0);
        b.window(3, Barrierbrook.TUMBLE, 10, 0, true, 0, 0);
        b.sink(4);
        tell(b, 0, 1, 0, -9999);
        checks.same("a value at the lower bound", b.whole(4, 0, 9), -1000000);
        checks.same("is counted", b.whole(5, 0, 9), 1);
        tell(b, 0, 2, 0, 9999);
        checks.same("and one at the upper bound", b.whole(4, 0, 9), 0);
        checks.same("is counted", b.whole(5, 0, 9), 2);
        b.end(0, 0);
        gets("as they are told", b, 6, "0@9=0+");
    }

    /** 'whose times differ by the reach at most' */
    private static void joinOfOneTime() {
        Barrierbrook b = joined(0);
        tell(b, 0, 5, 0, 1);
        tell(b, 1, 6, 0, 1);
        tell(b, 1, 4, 0, 1);
        gets("times that differ by 1", b, 3, "");
        tell(b, 1, 5, 0, 1);
        gets("the same time", b, 3, "0@5=4+");
        Barrierbrook c = joined(100);
        tell(c, 0, 100, 0, 1);
        tell(c, 1, 0, 0, 1);
        gets("times that differ by 100", c, 3, "0@100=4+");
        tell(c, 1, 201, 0, 1);
        gets("times that differ by 101", c, 3, "");
    }

    /** 'otherwise it is kept, and gone as soon as the mark is greater than its time and the reach together' */
    private static void joinForgets() {
        for (int side = 0; side < 2; side++) {
            for (int key : new int[] {0, 15}) {
                Barrierbrook b = joined(3);
                tell(b, side, 4, key, 1);
                tell(b, 0, 8, 5, 0);
                tell(b, 1, 8, 6, 0);
                checks.same("a mark of time and reach", b.mark(2, 0), 7);
                tell(b, 1 - side, 5, key, 1);
                gets("it is still there", b, 3, key + "@5=4+");
                tell(b, 0, 9, 5, 0);
                tell(b, 1, 9, 6, 0);
                checks.same("a greater mark", b.mark(2, 0), 8);
                tell(b, 1 - side, 5, key, 2);
                gets("it is gone", b, 3, "");
                checks.same("no record is lost", b.lost(2), 0);
            }
        }
    }

    /** 'A record of its first input waits until the mark is at least its time' */
    private static void tableWaits() {
        Barrierbrook b = new Barrierbrook();
        b.source(1, 0, 100);
        b.source(1, 0, 100);
        b.table(0, 1);
        b.sink(2);
        tell(b, 1, 6, 0, 1);
        tell(b, 0, 6, 9, 0);
        checks.same("the mark", b.mark(2, 0), 5);
        tell(b, 1, 5, 0, 2);
        tell(b, 0, 5, 0, 1);
        gets("its time is the mark", b, 3, "0@5=5+");
        tell(b, 0, 6, 0, 1);
        gets("its time is greater by 1", b, 3, "");
        tell(b, 0, 7, 9, 0);
        tell(b, 1, 7, 9, 0);
        gets("now the mark is its time", b, 3, "0@6=4+");
    }

    /** 'then it is joined with the record of the second input': none that waits, none that is given out */
    private static void tableWithoutWaiting() {
        Barrierbrook b = new Barrierbrook();
        b.source(1, 0, 100);
        b.source(1, 0, 100);
        b.table(0, 1);
        b.sink(2);
        tell(b, 1, 0, 0, 1);
        tell(b, 1, 5, 0, 1);
        tell(b, 0, 9, 0, 1);
        checks.same("the mark", b.mark(2, 0), 4);
        gets("one waits, none is given out", b, 3, "");
        b.end(0, 0);
        b.end(1, 0);
        gets("just that one is", b, 3, "0@9=4+");
    }

    /** 'For each key it has a row of times. ... the row is empty then.' */
    private static void patternRowsByKeys() {
        Barrierbrook b = new Barrierbrook();
        b.source(1, 0, 100);
        b.pattern(0, 0, 9, 2, 1000);
        b.sink(1);
        int[] keys = {3, 4, 5};
        for (int k : keys) {
            tell(b, 0, 1, k, 0);
            tell(b, 0, 2, k, 0);
        }
        for (int k : new int[] {4, 3, 5}) tell(b, 0, 3, k, 9);
        for (int k : keys) tell(b, 0, 4, k, 9);
        tell(b, 0, 5, 0, -1);
        gets("each key is told once", b, 2, "3@3=9+ 4@3=9+ 5@3=9+");
    }

    /** 'A record whose value is at least high' and 'Another record, whose value is at least low' */
    private static void patternBetweenBounds() {
        Barrierbrook b = new Barrierbrook();
        b.source(1, 0, 100);
        b.pattern(0, 5, 9, 5, 0);
        b.sink(1);
        for (int i = 0; i < 4; i++) tell(b, 0, 7, 0, 5);
        tell(b, 0, 7, 0, 4);
        tell(b, 0, 7, 0, 9);
        tell(b, 0, 7, 0, 8);
        tell(b, 0, 7, 0, 9);
        tell(b, 0, 8, 0, 4);
        gets("a row of five times; one below low and one below high do not matter", b, 2, "0@7=9+");
        Barrierbrook c = new Barrierbrook();
        c.source(1, 0, 100);
        c.pattern(0, 5, 9, 1, 1000);
        c.sink(1);
        tell(c, 0, 0, 0, 5);
        tell(c, 0, 1001, 0, 9);
        tell(c, 0, 2001, 0, 9);
        tell(c, 0, 2002, 0, 0);
        gets("not more than a reach of 1000 ahead", c, 2, "0@2001=9+");
    }

    /** 'with the record of the second input with the same key, with a sign of 1' */
    private static void tablePassesOverTheSign() {
        Barrierbrook b = new Barrierbrook();
        b.source(1, 0, 100);
        b.source(1, 0, 100);
        b.table(0, 1);
        b.sink(2);
        tell(b, 1, 5, 0, 1);
        tell(b, 1, 5, 0, 2);
        tell(b, 0, 20, 9, 0);
        tell(b, 1, 20, 9, 0);
        b.correct(1, 0, 0, 7);
        checks.steps("the sign -1", b, 1, 0, EVENT, WENT_OUT);
        checks.steps("is taken", b, 2, 0, RECORD);
        b.event(0, 0, 6, 0, 10);
        checks.steps("a record of the first input", b, 0, 0, EVENT, WENT_OUT);
        checks.steps("is joined at once", b, 2, 0, RECORD);
        gets("with the last one of sign 1", b, 3, "0@6=32+");
        tell(b, 0, 6, 0, 10);
        gets("and then with the new value", b, 3, "0@6=37+");
        b.correct(0, 0, 1, 20);
        b.run(20);
        gets("signs of the first input are given out", b, 3, "0@6=37- 0@6=67+");
    }

    /** 'those with the sign -1 are nothing to it' */
    private static void patternPassesOverTheSign() {
        for (int ahead : new int[] {0, 1}) {
            Barrierbrook b = new Barrierbrook();
            b.source(1, 0, 100);
            b.pattern(0, 0, 9, 2, 100);
            b.sink(1);
            if (ahead == 1) tell(b, 0, 50, 15, -1);
            tell(b, 0, 3, 0, 5);
            b.correct(0, 0, ahead, -1);
            b.run(20);
            tell(b, 0, 4, 0, 9);
            if (ahead == 0) tell(b, 0, 50, 15, -1);
            gets("it puts no time into the row", b, 2, "");
            b.correct(0, 0, ahead + 3, -1);
            b.run(20);
            gets("it is not told", b, 2, "");
            tell(b, 0, 5, 0, 9);
            gets("the row has its two times", b, 2, "0@5=9+");
        }
    }

    /** 'These hands ... look at the first channel next', and nothing else comes into being by that. */
    private static void nothingWaitsBehindRescale() {
        Barrierbrook b = new Barrierbrook();
        b.source(1, 0, 100);
        b.pattern(0, 0, 9, 1, 1000);
        b.sink(1);
        align(b);
        b.rescale(1, 2);
        tell(b, 0, 5, 0, 9);
        b.end(0, 0);
        gets("the row is empty", b, 2, "");
    }

    /** What is kept by a cut: 'which channel is looked at next' */
    private static void nextIsBroughtBack() {
        Barrierbrook b = plain(2);
        b.cut(false);
        checks.steps("the barrier of partition 1", b, 0, 1, JOINED, WENT_OUT);
        checks.steps("is taken first", b, 1, 0, BARRIER);
        checks.steps("the barrier of partition 0", b, 0, 0, JOINED, WENT_OUT);
        checks.steps("is taken last", b, 1, 0, BARRIER, WENT_OUT);
        b.event(0, 1, 0, 1, 2);
        checks.steps("a record of partition 1", b, 0, 1, EVENT, WENT_OUT);
        checks.steps("is taken", b, 1, 0, RECORD);
        b.crash();
        b.event(0, 0, 0, 0, 1);
        checks.steps("a record of partition 0", b, 0, 0, EVENT, WENT_OUT);
        checks.steps("that of partition 1 again", b, 0, 1, EVENT, WENT_OUT);
        checks.steps("both are taken", b, 1, 0, RECORD, RECORD);
        b.cut(true);
        checks.same("partition 1 first, as kept", Checks.given(b, 1), "1@0=2+ 0@0=1+");
    }

    /** What is kept by a cut: 'how far it has taken events', and so 'the greatest time that it took' */
    private static void greatestTimeIsBroughtBack() {
        Barrierbrook b = plain(1);
        tell(b, 0, 5, 0, 0);
        tell(b, 0, 20, 0, 0);
        b.crash();
        checks.steps("the first event again", b, 0, 0, EVENT);
        checks.same("its mark", b.mark(0, 0), 4);
        b.run(20);
        align(b);
        tell(b, 0, 25, 0, 0);
        tell(b, 0, 40, 0, 0);
        b.crash();
        checks.same("the mark by the cut", b.mark(0, 0), 19);
        checks.steps("the third event again", b, 0, 0, EVENT);
        checks.same("its mark", b.mark(0, 0), 24);
    }

    /** What is kept by a cut: 'how far it has taken ... ends' */
    private static void endsAreBroughtBack() {
        Barrierbrook b = plain(2);
        b.end(0, 0);
        b.run(9);
        align(b);
        b.end(0, 1);
        b.run(9);
        checks.same("both ends", b.mark(1, 0), 20000);
        b.crash();
        checks.same("one end", b.mark(1, 0), -1);
        checks.steps("that one is not taken again", b, 0, 0, NOTHING);
        checks.steps("the other one is", b, 0, 1, EVENT, WENT_OUT, NOTHING);
        b.run(9);
        checks.same("both ends again", b.mark(1, 0), 20000);
    }

    /** 'A hand that joins keeps ... its marks and rests, those of its channels': by a cut that overtakes, too. */
    private static void overtakenMarks() {
        Barrierbrook b = plain(2);
        b.event(0, 0, 10, 0, 0);
        checks.steps("partition 0", b, 0, 0, EVENT, WENT_OUT);
        checks.steps("its mark", b, 1, 0, RECORD, MARK);
        b.cut(true);
        b.event(0, 0, 30, 0, 0);
        checks.steps("partition 0", b, 0, 0, EVENT, WENT_OUT);
        checks.steps("its next mark", b, 1, 0, RECORD, MARK);
        b.crash();
        b.event(0, 1, 20, 0, 0);
        checks.steps("partition 1", b, 0, 1, EVENT, WENT_OUT);
        checks.steps("its mark", b, 1, 0, RECORD, MARK);
        checks.same("the mark of partition 0 is that by the cut", b.mark(1, 0), 9);
    }

    private static void overtakenRests() {
        Barrierbrook b = plain(2);
        b.tick(10);
        checks.steps("partition 1 rests", b, 0, 1, RESTED, WENT_OUT);
        checks.steps("the sink hears of it", b, 1, 0, REST);
        b.cut(true);
        b.event(0, 1, 5, 0, 0);
        checks.steps("it rests no more", b, 0, 1, EVENT, WENT_OUT);
        checks.steps("the sink hears of it", b, 1, 0, RECORD, MARK);
        b.crash();
        checks.yes("it rests again", b.rests(0, 1));
        b.event(0, 0, 10, 0, 0);
        checks.steps("partition 0", b, 0, 0, EVENT, WENT_OUT);
        checks.steps("its mark", b, 1, 0, RECORD, MARK);
        checks.same("the channel is at rest again", b.mark(1, 0), 9);
    }

    /** 'with the marks and rests then that those hands had given out whose items they take': of both inputs */
    private static void marksOfTheSecondInput() {
        Barrierbrook b = joined(0);
        tell(b, 0, 10, 0, 0);
        tell(b, 1, 16, 0, 0);
        align(b);
        checks.same("the mark by the cut", b.mark(2, 0), 9);
        tell(b, 1, 40, 0, 0);
        b.crash();
        b.event(0, 0, 20, 0, 0);
        checks.steps("the first input", b, 0, 0, EVENT, WENT_OUT);
        checks.steps("its mark", b, 2, 0, RECORD, MARK);
        checks.same("the mark of the second input is that by the cut", b.mark(2, 0), 15);
        Barrierbrook c = joined(0);
        c.tick(100);
        tell(c, 0, 5, 0, 0);
        checks.yes("the second input rests", c.rests(1, 0));
        checks.same("so that the mark is that of the first one", c.mark(2, 0), 4);
        align(c);
        tell(c, 1, 5, 0, 0);
        c.crash();
        c.event(0, 0, 20, 0, 0);
        checks.steps("the first input", c, 0, 0, EVENT, WENT_OUT);
        checks.steps("its mark", c, 2, 0, RECORD, MARK);
        checks.same("the second input is at rest again", c.mark(2, 0), 19);
    }

    /** 'channels and out rows are as they were kept, empty for a cut that aligned' */
    private static void behindTheBarriersAllIsEmpty() {
        Barrierbrook b = plain(2);
        for (int i = 0; i < 3; i++) b.event(0, 0, 0, 0, i);
        b.cut(false);
        checks.steps("a barrier, a record behind it", b, 0, 0, JOINED, WENT_OUT, EVENT, WENT_OUT);
        checks.steps("a record in the out row", b, 0, 0, EVENT);
        checks.steps("the other barrier", b, 0, 1, JOINED, WENT_OUT);
        checks.steps("the cut is done", b, 1, 0, BARRIER, BARRIER);
        checks.same("done", b.joined(), -1);
        checks.same("one waits", b.waiting(1, 0), 1);
        b.crash();
        checks.same("the channels are empty", b.waiting(1, 0), 0);
        for (int p = 0; p < 2; p++) checks.same("out row of partition " + p, b.outRow(0, p), 0);
        checks.same("the out row of the sink", b.outRow(1, 0), 0);
        b.run(20);
        checks.same("all events come again", b.pending(1), 3);
    }

    /** 'ticks for a rest are counted from the crash on' and handing anew 'is a crash besides' */
    private static void ticksBehindRescale() {
        Barrierbrook b = plain(1);
        b.tick(9);
        b.rescale(1, 1);
        b.tick(9);
        checks.steps("9 ticks behind the crash", b, 0, 0, NOTHING);
        b.tick(1);
        checks.steps("10 ticks behind the crash", b, 0, 0, RESTED);
        checks.same("ticks stay", b.tick(1), 20);
    }

    /** 'these hands, and those of its followers, look at the first channel next': by a second input, too. */
    private static void followersByTheSecondInput() {
        for (int input = 0; input <= 2; input++) {
            Barrierbrook b = new Barrierbrook();
            b.source(1, 0, 100);
            b.sift(0, 0);
            b.sift(0, 9999);
            b.join(1, 2, 0);
            b.sink(3);
            b.cut(false);
            checks.steps("the barrier", b, 0, 0, JOINED, WENT_OUT);
            for (int o = 2; o >= 1; o--) {
                checks.steps("by both ways", b, o, 0, BARRIER, WENT_OUT);
                checks.steps("to the JOIN", b, 3, 0, BARRIER);
            }
            checks.steps("to the sink", b, 3, 0, WENT_OUT);
            checks.steps("the cut is done", b, 4, 0, BARRIER, WENT_OUT);
            checks.same("done", b.joined(), -1);
            if (input == 0) b.crash();
            else b.rescale(input, 1);
            b.event(0, 0, 5, 0, 8);
            checks.steps("a record and a mark", b, 0, 0, EVENT, WENT_OUT);
            checks.steps("by the first way", b, 1, 0, RECORD, WENT_OUT, MARK, WENT_OUT);
            checks.steps("by the second way only the mark", b, 2, 0, RECORD, MARK, WENT_OUT);
            if (input == 0) checks.steps("the second channel first, as kept", b, 3, 0, MARK, RECORD);
            else checks.steps("the first channel first", b, 3, 0, RECORD, MARK);
            checks.steps("then the mark of the first one", b, 3, 0, MARK, WENT_OUT, NOTHING);
        }
    }

    /** 'Returns whether no hand would do anything by a step, though some out row or channel is not empty.' */
    private static void isStuck() {
        Barrierbrook b = plain(2);
        b.event(0, 1, 0, 0, 0);
        checks.steps("one item", b, 0, 1, EVENT);
        checks.no("an out row with one item could step", b.isStuck());
        checks.steps("goes out", b, 0, 1, WENT_OUT);
        checks.no("an item in the second channel could be taken", b.isStuck());
        Barrierbrook c = new Barrierbrook();
        c.source(1, 0, 10);
        c.sift(0, 0);
        c.event(0, 0, 0, 0, 0);
        checks.steps("one item", c, 0, 0, EVENT, WENT_OUT);
        c.rule(1, 0);
        checks.no("a rule could be taken", c.isStuck());
        for (int p = 0; p < 2; p++) {
            isStuckWithAHeldChannel(p, 1 - p, 0);
            isStuckWithAHeldChannel(p, 1 - p, 1);
        }
    }

    private static void isStuckWithAHeldChannel(int held, int other, int hand) {
        Barrierbrook b = plain(2);
        b.rescale(1, 2);
        b.event(0, held, 0, 8 * hand, 0);
        b.cut(false);
        checks.steps("a barrier, a record behind it", b, 0, held, JOINED, WENT_OUT, EVENT, WENT_OUT);
        for (int h = 0; h < 2; h++) checks.steps("the channel is held", b, 1, h, BARRIER, NOTHING);
        checks.same("the record waits", b.waiting(1, hand), 1);
        checks.no("the other partition could join", b.isStuck());
        checks.steps("it joins", b, 0, other, JOINED);
        checks.no("its barrier could go out", b.isStuck());
        checks.steps("it goes out", b, 0, other, WENT_OUT);
        checks.no("it could be taken", b.isStuck());
    }
}
