/** Promises 19 to 22, and what 'CUTS' in the document tells: barriers, crashes, and hands given anew. */
public final class CutsTest {
    private static final Checks checks = new Checks("CutsTest");
    private static final int NOTHING = Barrierbrook.NOTHING, WENT_OUT = Barrierbrook.WENT_OUT,
        JOINED = Barrierbrook.JOINED, EVENT = Barrierbrook.EVENT, RESTED = Barrierbrook.RESTED,
        RULES = Barrierbrook.RULES, RECORD = Barrierbrook.RECORD, MARK = Barrierbrook.MARK,
        REST = Barrierbrook.REST, BARRIER = Barrierbrook.BARRIER;

    public static void main(String[] args) {
        promise19Cut();
        aligns();
        sinkOfTwoHands();
        overtakes();
        promise20Crash();
        crashToTheBeginning();
        crashForgetsACut();
        crashToAnAlignedCut();
        crashKeepsNext();
        crashBringsMarksBack();
        onceAndNotTwice();
        handsAnewMarks();
        handsAnewRules();
        handsAnewStates();
        handsAnewLost();
        handsAnewRests();
        handsAnewLookAtTheFirst();
        handsAnewAgain();
        handsAnewToTheSameNumber();
        promise21Joined();
        promise22IsStuck();
        checks.end();
    }

    /** 0 source of so many partitions, 1 sink. */
    private static Barrierbrook plain(int partitions) {
        Barrierbrook b = new Barrierbrook();
        b.source(partitions, 0, 10);
        b.sink(0);
        return b;
    }

    /** A cut that aligns, gone through to its end. */
    private static void align(Barrierbrook b) {
        b.cut(false);
        b.run(50);
        checks.same("a cut that aligns is done", b.joined(), -1);
    }

    private static void promise19Cut() {
        Barrierbrook none = new Barrierbrook();
        checks.refusesState(none, "cut(true) without operators", () -> none.cut(true));
        checks.refusesState(none, "cut(false) without operators", () -> none.cut(false));
        Barrierbrook b = plain(1);
        checks.same("the first cut", b.cut(true), 0);
        checks.same("the second cut", b.cut(false), 1);
        checks.refusesState(b, "cut(false) while one goes on", () -> b.cut(false));
        checks.refusesState(b, "cut(true) while one goes on", () -> b.cut(true));
        b.run(10);
        checks.same("the third cut", b.cut(true), 2);
        checks.same("the fourth cut", b.cut(false), 3);
        checks.same("crash", b.crash(), 2);
        checks.same("numbers stay by a crash", b.cut(false), 4);
    }

    private static void aligns() {
        Barrierbrook b = plain(2);
        for (int p = 0; p < 2; p++) for (int i = 0; i < 4; i++) b.event(0, p, 0, p, i);
        checks.steps("records ahead of the cut", b, 0, 0, EVENT, WENT_OUT);
        checks.steps("records ahead of the cut", b, 0, 1, EVENT);
        b.cut(false);
        checks.same("nobody has joined", b.joined(), 0);
        checks.steps("joins ahead of the next event", b, 0, 0, JOINED, WENT_OUT, EVENT, WENT_OUT);
        checks.same("one has joined", b.joined(), 1);
        checks.steps("the sink, up to the barrier", b, 1, 0, RECORD, BARRIER, NOTHING);
        checks.same("the channel is held", b.waiting(1, 0), 1);
        checks.same("a hand that waits for a barrier has not joined", b.joined(), 1);
        checks.steps("the other partition goes on as it was", b, 0, 1, WENT_OUT, JOINED);
        checks.same("two have joined", b.joined(), 2);
        checks.steps("the other channel is not held", b, 1, 0, RECORD, NOTHING);
        checks.same("what was got is not given out", b.given(1), 0);
        checks.same("but pending", b.pending(1), 2);
        checks.steps("the barrier goes out", b, 0, 1, WENT_OUT, EVENT, WENT_OUT);
        checks.steps("the barrier lets the sink join", b, 1, 0, BARRIER);
        checks.same("the cut is done", b.joined(), -1);
        checks.same("what was got is given out", Checks.given(b, 1), "0@0=0+ 1@0=0+");
        checks.same("the sink gives out a barrier", b.outRow(1, 0), 1);
        checks.steps("it holds none any more", b, 1, 0, WENT_OUT, RECORD, RECORD, NOTHING);
        checks.same("behind the barriers", b.pending(1), 2);
        checks.same("given stays", b.given(1), 2);
        checks.steps("no more barriers", b, 0, 0, EVENT);
    }

    private static void sinkOfTwoHands() {
        Barrierbrook b = plain(1);
        b.rescale(1, 2);
        int[] keys = {0, 8, 0, 8};
        for (int i = 0; i < 4; i++) b.event(0, 0, 0, keys[i], i);
        for (int i = 0; i < 3; i++) checks.steps("events", b, 0, 0, EVENT, WENT_OUT);
        checks.steps("hand 1 first", b, 1, 1, RECORD);
        checks.steps("then hand 0", b, 1, 0, RECORD, RECORD);
        b.cut(false);
        checks.steps("the barrier, and an event behind it", b, 0, 0, JOINED, WENT_OUT, EVENT, WENT_OUT);
        checks.steps("hand 1 joins, and gets more", b, 1, 1, BARRIER, WENT_OUT, RECORD);
        checks.same("all is pending", b.pending(1), 4);
        checks.same("two of three", b.joined(), 2);
        checks.steps("hand 0 joins", b, 1, 0, BARRIER);
        checks.same("in the order in which it got that", Checks.given(b, 1), "8@0=1+ 0@0=0+ 0@0=2+");
        checks.same("what came behind", b.pending(1), 1);
        b.cut(true);
        checks.same("is given out by the next cut", Checks.given(b, 1, 3), "8@0=3+");
    }

    private static void overtakes() {
        Barrierbrook b = plain(2);
        for (int i = 1; i <= 5; i++) b.event(0, 0, i, 0, i);
        b.event(0, 1, 7, 9, 9);
        checks.steps("a full channel", b, 0, 0, EVENT, WENT_OUT, EVENT, WENT_OUT, EVENT);
        checks.steps("another one", b, 0, 1, EVENT, WENT_OUT);
        checks.steps("one is got", b, 1, 0, RECORD);
        checks.same("a cut that overtakes", b.cut(true), 0);
        checks.same("is done at once", b.joined(), -1);
        checks.same("what was got is given out", Checks.given(b, 1), "0@1=1+");
        String kept = Checks.picture(b);
        b.run(30);
        checks.same("all the rest is got", b.pending(1), 5);
        checks.same("crash", b.crash(), 0);
        checks.same("channels and out rows are as they were", Checks.picture(b), kept);
        b.run(30);
        b.cut(true);
        checks.same("all comes once", b.given(1), 6);
        checks.same("net of the first", b.net(1, 0, 1), 1);
        b.crash();
        b.crash();
        checks.same("given stays", b.given(1), 6);
    }

    private static void promise20Crash() {
        Barrierbrook b = plain(1);
        checks.same("crash to the beginning", b.crash(), -1);
        b.cut(false);
        checks.same("a cut that goes on does not count", b.crash(), -1);
        checks.same("it is forgotten", b.joined(), -1);
        b.cut(true);
        checks.same("crash to a cut that overtook", b.crash(), 1);
        b.cut(false);
        checks.same("still to that one", b.crash(), 1);
        align(b);
        checks.same("crash to a cut that aligned", b.crash(), 3);
        checks.same("and again", b.crash(), 3);
    }

    private static void crashToTheBeginning() {
        Barrierbrook b = plain(2);
        String first = Checks.picture(b);
        b.event(0, 0, 5, 0, 1);
        b.event(0, 1, 8, 9, 2);
        b.end(0, 1);
        b.run(7);
        b.tick(10);
        b.run(1);
        b.crash();
        checks.same("all is as in the beginning", Checks.picture(b), first);
        b.tick(9);
        b.run(20);
        checks.same("events are taken again", b.pending(1), 2);
        checks.same("the end is taken again", b.mark(0, 1), 20000);
        checks.same("the mark comes again", b.mark(1, 0), 4);
        checks.same("nothing was given out", b.given(1), 0);
    }

    private static void crashForgetsACut() {
        Barrierbrook b = plain(2);
        b.event(0, 0, 5, 0, 1);
        b.run(5);
        b.cut(false);
        checks.steps("a barrier", b, 0, 0, JOINED, WENT_OUT);
        checks.steps("it is taken", b, 1, 0, BARRIER);
        b.crash();
        checks.same("forgotten", b.joined(), -1);
        checks.steps("no barrier", b, 0, 0, EVENT, WENT_OUT);
        checks.steps("no channel is held", b, 1, 0, RECORD, MARK);
        checks.steps("no barrier of the other one", b, 0, 1, NOTHING);
        checks.same("the next cut", b.cut(false), 1);
        b.run(20);
        checks.same("is done", b.given(1), 1);
        b.cut(false);
        checks.steps("what joined", b, 0, 0, JOINED);
        b.crash();
        checks.same("what was given out stays", b.given(1), 1);
        b.run(20);
        checks.same("nothing comes again", b.pending(1), 0);
    }

    private static void crashToAnAlignedCut() {
        Barrierbrook b = new Barrierbrook();
        b.source(1, 0, 10);
        b.window(0, Barrierbrook.TUMBLE, 10, 0, false, 0, 0);
        b.sink(1);
        b.event(0, 0, 3, 0, 5);
        b.event(0, 0, 4, 8, 7);
        b.run(20);
        align(b);
        b.event(0, 0, 6, 0, 9);
        b.event(0, 0, 20, 0, 1);
        b.event(0, 0, 2, 0, 1);
        b.run(30);
        checks.same("two spans told", b.pending(2), 2);
        checks.same("one record lost", b.lost(1), 1);
        checks.same("whole", b.whole(1, 0, 9), 14);
        checks.same("crash", b.crash(), 0);
        checks.same("nothing is pending", b.pending(2), 0);
        checks.same("lost is brought back", b.lost(1), 0);
        checks.same("the mark is brought back", b.mark(1, 0), 3);
        checks.same("the source's mark, too", b.mark(0, 0), 3);
        checks.same("whole of what was taken by then", b.whole(1, 0, 9), 5);
        b.run(30);
        align(b);
        checks.same("all comes once", Checks.given(b, 2), "0@9=14+ 8@9=7+");
        b.crash();
        b.end(0, 0);
        b.run(30);
        align(b);
        checks.same("spans that had told are gone", Checks.given(b, 2, 2), "0@29=1+");
    }

    /** A crash also brings back which channel is looked at next. */
    private static void crashKeepsNext() {
        Barrierbrook b = plain(2);
        b.event(0, 0, 0, 0, 1);
        b.event(0, 1, 0, 1, 1);
        b.event(0, 0, 0, 0, 2);
        b.event(0, 1, 0, 1, 2);
        checks.steps("partition 1 joins last", b, 0, 0, EVENT, WENT_OUT);
        checks.steps("a record", b, 0, 1, EVENT, WENT_OUT);
        checks.steps("both are taken", b, 1, 0, RECORD, RECORD);
        b.cut(false);
        checks.steps("the barrier of partition 1", b, 0, 1, JOINED, WENT_OUT);
        checks.steps("is taken", b, 1, 0, BARRIER);
        checks.steps("the barrier of partition 0", b, 0, 0, JOINED, WENT_OUT);
        checks.steps("is taken behind it", b, 1, 0, BARRIER, WENT_OUT);
        checks.same("done", b.given(1), 2);
        for (int i = 0; i < 2; i++) {
            b.crash();
            checks.steps("a record", b, 0, 0, EVENT, WENT_OUT);
            checks.steps("a record", b, 0, 1, EVENT, WENT_OUT);
            checks.steps("both are taken", b, 1, 0, RECORD, RECORD);
        }
        b.cut(true);
        checks.same("partition 1 is looked at next", Checks.given(b, 1, 2), "1@0=2+ 0@0=2+");
    }

    /** Marks and rests of channels come back as the hands had given them out. */
    private static void crashBringsMarksBack() {
        Barrierbrook b = plain(2);
        b.event(0, 0, 10, 0, 0);
        b.run(10);
        b.tick(10);
        checks.steps("partition 1 rests", b, 0, 1, RESTED);
        b.run(10);
        align(b);
        checks.same("mark", b.mark(1, 0), 9);
        b.event(0, 1, 3, 0, 0);
        b.run(10);
        b.crash();
        checks.yes("the partition rests again", b.rests(0, 1));
        b.end(0, 0);
        checks.steps("the end of the other one", b, 0, 0, EVENT, WENT_OUT);
        checks.steps("its channel is at rest again", b, 1, 0, MARK);
        checks.same("so that the mark rises", b.mark(1, 0), 20000);
        Barrierbrook c = plain(2);
        c.event(0, 0, 10, 0, 0);
        c.event(0, 1, 20, 0, 0);
        c.run(10);
        align(c);
        c.crash();
        c.event(0, 0, 15, 0, 0);
        checks.steps("a mark of one", c, 0, 0, EVENT, WENT_OUT);
        checks.steps("is taken", c, 1, 0, RECORD, MARK);
        checks.same("the other channel has its mark again", c.mark(1, 0), 14);
    }

    private static void onceAndNotTwice() {
        Barrierbrook calm = pipeline();
        Barrierbrook wild = pipeline();
        Barrierbrook[] both = {calm, wild};
        for (int round = 0; round < 10; round++) {
            for (Barrierbrook b : both) {
                b.event(0, round % 2, round * 3, round * 5 % 16, round);
                b.event(0, (round + 1) % 2, round * 3 + 2, round * 3 % 16, -round);
                b.run(4);
                if (b == wild) {
                    if (round % 3 == 0) b.cut(false);
                    b.run(round + 1);
                    if (round % 2 == 1) b.crash();
                    if (round == 6) b.rescale(1, 3);
                    if (round == 8) b.rescale(2, 2);
                }
            }
        }
        for (Barrierbrook b : both) {
            b.run(50);
            b.end(0, 0);
            b.end(0, 1);
            b.run(50);
            if (b.joined() < 0) b.cut(false);
            b.run(50);
        }
        int told = 0;
        for (int key = 0; key < 16; key++) {
            for (int time = 0; time < 40; time++) {
                checks.same("net of " + key + "@" + time, wild.net(2, key, time), calm.net(2, key, time));
                checks.same("whole of " + key + "@" + time, wild.whole(1, key, time), wild.net(2, key, time));
                told += calm.net(2, key, time) != 0 ? 1 : 0;
            }
        }
        checks.yes("there is something to compare", told > 10);
    }

    /** 0 source with a delay, 1 window, 2 sink. */
    private static Barrierbrook pipeline() {
        Barrierbrook b = new Barrierbrook();
        b.source(2, 50, 10);
        b.window(0, Barrierbrook.SLIDE, 6, 3, false, 5, 1);
        b.sink(1);
        return b;
    }

    /**
     * 0 source, 1 sift, 2 sink. Hands 0 and 1 of the SIFT come to the marks 50 and 10, as one of them hears of a
     * rest of partition 0 behind the mark of partition 1, and the other one ahead of it; a cut that aligns keeps that.
     */
    private static Barrierbrook withTwoMarks() {
        Barrierbrook b = new Barrierbrook();
        b.source(2, 0, 1);
        b.sift(0, -9999);
        b.sink(1);
        b.rescale(1, 2);
        b.event(0, 0, 4, 0, 1);
        b.run(9);
        b.tick(1);
        checks.steps("a rest", b, 0, 0, RESTED, WENT_OUT);
        b.event(0, 0, 11, 0, 2);
        checks.steps("and an event behind it", b, 0, 0, EVENT, WENT_OUT);
        checks.steps("hand 1 hears of both", b, 1, 1, REST, MARK, NOTHING);
        b.event(0, 1, 51, 0, 3);
        checks.steps("partition 1 has mark 50", b, 0, 1, EVENT, WENT_OUT);
        checks.steps("hand 1 hears of it", b, 1, 1, MARK, WENT_OUT);
        checks.steps("hand 0 hears of it between", b, 1, 0, RECORD, WENT_OUT, REST, MARK);
        b.run(9);
        align(b);
        checks.same("the mark of hand 0", b.mark(1, 0), 50);
        checks.same("the mark of hand 1", b.mark(1, 1), 10);
        checks.same("the mark of the sink", b.mark(2, 0), 10);
        return b;
    }

    private static void handsAnewMarks() {
        Barrierbrook b = withTwoMarks();
        b.crash();
        checks.same("a crash lets hand 0 have its mark", b.mark(1, 0), 50);
        checks.same("rescale", b.rescale(1, 3), 2);
        for (int h = 0; h < 3; h++) checks.same("the least mark for hand " + h, b.mark(1, h), 10);
        checks.same("the mark of the sink stays", b.mark(2, 0), 10);
        b.event(0, 0, 21, 8, 4);
        b.run(20);
        for (int h = 0; h < 3; h++) checks.same("a new mark for hand " + h, b.mark(1, h), 20);
        checks.same("a new mark of the sink", b.mark(2, 0), 20);
        b.crash();
        for (int h = 0; h < 3; h++) checks.same("a crash does the same for hand " + h, b.mark(1, h), 10);
        b.rescale(1, 2);
        checks.same("also with two hands again", b.mark(1, 0), 10);
        checks.same("and for the other one", b.mark(1, 1), 10);
        Barrierbrook c = withTwoMarks();
        c.rescale(1, 1);
        c.event(0, 0, 21, 8, 4);
        checks.steps("an event", c, 0, 0, EVENT, WENT_OUT);
        checks.steps("one hand", c, 1, 0, RECORD, WENT_OUT, MARK, WENT_OUT);
        checks.steps("the sink hears marks of one hand alone", c, 2, 0, RECORD, MARK);
        checks.same("its mark", c.mark(2, 0), 20);
        align(c);
        c.event(0, 0, 31, 8, 4);
        c.run(20);
        c.crash();
        checks.same("a new cut keeps the new hand", c.mark(1, 0), 20);
    }

    /** 0 source, 1 sift, 2 sink; by the cut that is done, hand 0 of the SIFT has taken both rules, hand 1 none. */
    private static Barrierbrook handsWithAndWithoutRules() {
        Barrierbrook b = new Barrierbrook();
        b.source(1, 0, 10);
        b.sift(0, 0);
        b.sink(1);
        b.rescale(1, 2);
        b.cut(false);
        checks.steps("a barrier", b, 0, 0, JOINED, WENT_OUT);
        checks.steps("hand 1 joins without a rule", b, 1, 1, BARRIER);
        b.rule(1, 5);
        b.rule(1, 6);
        checks.steps("hand 0 joins with both", b, 1, 0, RULES, BARRIER);
        b.run(9);
        checks.same("done", b.joined(), -1);
        b.crash();
        checks.steps("hand 0 has taken them", b, 1, 0, NOTHING);
        checks.steps("hand 1 has not", b, 1, 1, RULES, NOTHING);
        return b;
    }

    private static void handsAnewRules() {
        Barrierbrook b = handsWithAndWithoutRules();
        b.rescale(1, 3);
        for (int h = 0; h < 3; h++) checks.steps("as far as the one that took the fewest", b, 1, h, RULES, NOTHING);
        Barrierbrook c = new Barrierbrook();
        c.source(1, 0, 10);
        c.sift(0, 0);
        c.sink(1);
        c.rule(1, 5);
        c.run(9);
        align(c);
        c.rescale(1, 2);
        c.event(0, 0, 0, 0, 4);
        c.event(0, 0, 0, 15, 5);
        c.event(0, 0, 0, 0, 6);
        c.run(20);
        checks.same("all hands have the rule", c.pending(2), 2);
        c.rescale(1, 1);
        checks.steps("and then the one", c, 1, 0, NOTHING);
    }

    private static void handsAnewStates() {
        Barrierbrook b = new Barrierbrook();
        b.source(1, 5, 10);
        b.source(1, 5, 10);
        b.join(0, 1, 10);
        b.sink(2);
        b.table(0, 1);
        b.sink(4);
        b.pattern(0, 1, 5, 1, 100);
        b.sink(6);
        for (int key = 0; key < 16; key += 5) {
            b.event(0, 0, 10, key, 5);
            b.event(1, 0, 9, key, key);
        }
        b.run(50);
        align(b);
        checks.same("a JOIN ahead", Checks.given(b, 3), "0@10=15+ 5@10=20+ 10@10=25+ 15@10=30+");
        int[] hands = {1, 3, 3, 2, 2, 1, 3};
        for (int h : hands) {
            b.rescale(2, h);
            b.rescale(4, h);
            b.rescale(6, 4 - h);
            for (int o : new int[] {2, 4, 6}) checks.same("all marks stay", b.mark(o, 0), o == 6 ? 4 : 3);
        }
        b.event(0, 0, 12, 5, 1);
        b.event(0, 0, 12, 15, 9);
        b.end(0, 0);
        b.end(1, 0);
        b.run(50);
        align(b);
        checks.same("a JOIN behind", net(b, 3), "0@10=15 5@10=20 5@12=8 10@10=25 15@10=30 15@12=42 ");
        checks.same("a TABLE behind", net(b, 5), "0@10=15 5@10=20 5@12=8 10@10=25 15@10=30 15@12=42 ");
        checks.same("a PATTERN behind", net(b, 7), "15@12=9 ");
        Barrierbrook c = new Barrierbrook();
        c.source(1, 0, 10);
        c.window(0, Barrierbrook.BUNCH, 2, 0, false, 0, 0);
        c.sink(1);
        c.window(0, Barrierbrook.SESSION, 5, 0, false, 0, 0);
        c.sink(3);
        c.rescale(1, 3);
        for (int key = 0; key < 16; key += 5) c.event(0, 0, 3, key, key);
        c.run(50);
        align(c);
        c.rescale(1, 2);
        c.rescale(3, 2);
        for (int key = 0; key < 16; key += 5) c.event(0, 0, 4, key, 1);
        c.end(0, 0);
        c.run(50);
        align(c);
        checks.same("a BUNCH", net(c, 2), "0@4=1 5@4=6 10@4=11 15@4=16 ");
        checks.same("a SESSION", net(c, 4), "0@8=1 5@8=6 10@8=11 15@8=16 ");
    }

    private static String net(Barrierbrook b, int sink) {
        StringBuilder all = new StringBuilder();
        for (int key = 0; key < 16; key++) {
            for (int time = 0; time < 40; time++) {
                long net = b.net(sink, key, time);
                if (net != 0) all.append(key).append('@').append(time).append('=').append(net).append(' ');
            }
        }
        return all.toString();
    }

    private static void handsAnewLost() {
        Barrierbrook b = new Barrierbrook();
        b.source(1, 0, 10);
        b.window(0, Barrierbrook.TUMBLE, 5, 0, false, 0, 0);
        b.sink(1);
        b.rescale(1, 2);
        b.event(0, 0, 20, 0, 1);
        b.event(0, 0, 1, 0, 2);
        b.event(0, 0, 2, 15, 4);
        b.event(0, 0, 3, 15, 8);
        b.run(50);
        checks.same("lost by both hands", b.lost(1), 3);
        align(b);
        for (int hands : new int[] {2, 1, 1, 3, 3}) {
            b.rescale(1, hands);
            checks.same("lost stays with hands " + hands, b.lost(1), 3);
            checks.same("what was too late stays off", b.whole(1, 15, 4), 0);
        }
        b.event(0, 0, 3, 15, 16);
        b.run(50);
        checks.same("one more", b.lost(1), 4);
        b.crash();
        checks.same("brought back", b.lost(1), 3);
    }

    private static void handsAnewRests() {
        Barrierbrook b = plain(1);
        b.event(0, 0, 5, 0, 0);
        b.run(9);
        b.tick(10);
        b.run(9);
        align(b);
        b.rescale(1, 3);
        for (int h = 0; h < 3; h++) checks.yes("hand " + h + " rests", b.rests(1, h));
        b.event(0, 0, 5, 0, 0);
        checks.steps("an event", b, 0, 0, EVENT, WENT_OUT);
        checks.steps("ends the rest of hand 0", b, 1, 0, RECORD);
        checks.steps("its mark ends the rest of hand 2", b, 1, 2, MARK);
        checks.yes("hand 1 rests", b.rests(1, 1));
        checks.no("hand 2 does not", b.rests(1, 2));
        Barrierbrook c = plain(1);
        c.event(0, 0, 5, 0, 0);
        c.run(9);
        align(c);
        c.rescale(1, 2);
        checks.no("hands of one that did not rest", c.rests(1, 0) || c.rests(1, 1));
    }

    /** 0 source of two partitions, 1 sink, which took last from the first channel; the cut is done. */
    private static Barrierbrook afterTheFirstOfTwo() {
        Barrierbrook b = plain(2);
        b.cut(false);
        checks.steps("the barrier of partition 1", b, 0, 1, JOINED, WENT_OUT);
        checks.steps("is taken first", b, 1, 0, BARRIER);
        checks.steps("the barrier of partition 0", b, 0, 0, JOINED, WENT_OUT);
        checks.steps("is taken last", b, 1, 0, BARRIER);
        checks.same("done", b.joined(), -1);
        return b;
    }

    private static void takeOneOfEach(Barrierbrook b) {
        b.event(0, 0, 0, 0, 1);
        b.event(0, 1, 0, 1, 2);
        checks.steps("an event", b, 0, 0, EVENT, WENT_OUT);
        checks.steps("an event of the other partition", b, 0, 1, EVENT, WENT_OUT);
        checks.steps("both are got", b, 1, 0, RECORD, RECORD);
        b.cut(true);
    }

    /** 0 source, 1 sift with two hands, 2 sink; the sink took last from the first channel. */
    private static Barrierbrook afterTheFirst() {
        Barrierbrook b = new Barrierbrook();
        b.source(1, 0, 10);
        b.sift(0, -9999);
        b.sink(1);
        b.rescale(1, 2);
        b.cut(false);
        checks.steps("a barrier", b, 0, 0, JOINED, WENT_OUT);
        checks.steps("of hand 1", b, 1, 1, BARRIER, WENT_OUT);
        checks.steps("is taken first", b, 2, 0, BARRIER);
        checks.steps("of hand 0", b, 1, 0, BARRIER, WENT_OUT);
        checks.steps("is taken last", b, 2, 0, BARRIER);
        checks.same("done", b.joined(), -1);
        b.event(0, 0, 0, 0, 1);
        b.event(0, 0, 0, 15, 2);
        return b;
    }

    private static void takeTwo(Barrierbrook b, int last) {
        checks.steps("two events", b, 0, 0, EVENT, WENT_OUT, EVENT, WENT_OUT);
        checks.steps("a record", b, 1, 0, RECORD, WENT_OUT);
        checks.steps("another one", b, 1, last, RECORD, WENT_OUT);
        checks.steps("both are got", b, 2, 0, RECORD, RECORD);
        b.cut(true);
    }

    private static void handsAnewLookAtTheFirst() {
        Barrierbrook b = afterTheFirst();
        b.crash();
        takeTwo(b, 1);
        checks.same("a crash: the second channel is next", Checks.given(b, 2), "15@0=2+ 0@0=1+");
        Barrierbrook c = afterTheFirst();
        c.rescale(1, 3);
        takeTwo(c, 2);
        checks.same("followers look at the first one next", Checks.given(c, 2), "0@0=1+ 15@0=2+");
        Barrierbrook d = afterTheFirstOfTwo();
        d.rescale(1, 2);
        takeOneOfEach(d);
        checks.same("new hands look at the first one next", Checks.given(d, 1), "0@0=1+ 1@0=2+");
    }

    private static void handsAnewAgain() {
        Barrierbrook b = plain(1);
        b.event(0, 0, 5, 0, 1);
        b.event(0, 0, 6, 15, 2);
        b.run(9);
        checks.same("rescale is a crash", b.rescale(1, 3), 1);
        checks.same("to the beginning", b.mark(0, 0), -1);
        checks.same("nothing is pending", b.pending(1), 0);
        b.run(20);
        checks.same("events come again", b.pending(1), 2);
        b.crash();
        checks.same("a crash lets the hands be", b.hands(1), 3);
        b.cut(false);
        checks.same("rescale while a cut goes on", b.rescale(1, 2), 3);
        checks.same("forgets it", b.joined(), -1);
        b.run(20);
        align(b);
        checks.same("all comes once", Checks.given(b, 1), "0@5=1+ 15@6=2+");
        b.rescale(1, 1);
        b.crash();
        checks.same("given stays", b.given(1), 2);
        checks.same("the mark of the hand", b.mark(1, 0), 5);
    }

    private static void handsAnewToTheSameNumber() {
        Barrierbrook b = withTwoMarks();
        checks.same("rescale to the same number", b.rescale(1, 2), 2);
        for (int h = 0; h < 2; h++) checks.same("the least mark for hand " + h, b.mark(1, h), 10);
        b.event(0, 0, 21, 8, 4);
        b.run(20);
        checks.same("a new mark", b.mark(1, 0), 20);
        b.crash();
        checks.same("a crash does the same", b.mark(1, 0), 10);
        Barrierbrook c = handsWithAndWithoutRules();
        c.rescale(1, 2);
        for (int h = 0; h < 2; h++) checks.steps("as far as the one that took the fewest", c, 1, h, RULES, NOTHING);
        c.crash();
        for (int h = 0; h < 2; h++) checks.steps("also by a crash", c, 1, h, RULES, NOTHING);
        sameNumberLooksAtTheFirst();
        sameNumberEndsWithTheNextCut();
        Barrierbrook e = plain(1);
        e.event(0, 0, 0, 0, 1);
        e.run(9);
        e.cut(true);
        checks.refusesState(e, "rescale to the same number behind one that overtook", () -> e.rescale(1, 1));
        checks.refusesArgument(e, "rescale of a source to the same number", () -> e.rescale(0, 1));
    }

    private static void sameNumberLooksAtTheFirst() {
        Barrierbrook b = afterTheFirstOfTwo();
        b.crash();
        takeOneOfEach(b);
        checks.same("a crash: the second channel is next", Checks.given(b, 1), "1@0=2+ 0@0=1+");
        Barrierbrook c = afterTheFirstOfTwo();
        c.rescale(1, 1);
        takeOneOfEach(c);
        checks.same("one hand as before looks at the first", Checks.given(c, 1), "0@0=1+ 1@0=2+");
        Barrierbrook d = afterTheFirstOfTwo();
        d.rescale(1, 1);
        d.crash();
        takeOneOfEach(d);
        checks.same("also by a crash later on", Checks.given(d, 1), "0@0=1+ 1@0=2+");
        Barrierbrook e = afterTheFirst();
        e.rescale(1, 2);
        takeTwo(e, 1);
        checks.same("followers look at the first one, too", Checks.given(e, 2), "0@0=1+ 15@0=2+");
        Barrierbrook f = afterTheFirst();
        f.rescale(2, 1);
        takeTwo(f, 1);
        checks.same("and so does the sink when it is handed anew", Checks.given(f, 2), "0@0=1+ 15@0=2+");
    }

    private static void sameNumberEndsWithTheNextCut() {
        Barrierbrook b = afterTheFirstOfTwo();
        b.rescale(1, 1);
        b.cut(false);
        checks.steps("the barrier of partition 1", b, 0, 1, JOINED, WENT_OUT);
        checks.steps("is taken first", b, 1, 0, BARRIER);
        checks.steps("the barrier of partition 0", b, 0, 0, JOINED, WENT_OUT);
        checks.steps("is taken last", b, 1, 0, BARRIER);
        b.crash();
        takeOneOfEach(b);
        checks.same("a new cut keeps what is next", Checks.given(b, 1), "1@0=2+ 0@0=1+");
    }

    private static void promise21Joined() {
        Barrierbrook b = new Barrierbrook();
        checks.same("joined() without operators", b.joined(), -1);
        b.source(2, 0, 10);
        b.sift(0, 0);
        b.rescale(1, 3);
        b.cut(false);
        checks.same("none", b.joined(), 0);
        checks.steps("partition 1", b, 0, 1, JOINED);
        checks.same("one", b.joined(), 1);
        checks.steps("it joins but once", b, 0, 1, WENT_OUT, NOTHING);
        checks.steps("partition 0", b, 0, 0, JOINED, WENT_OUT);
        checks.same("two", b.joined(), 2);
        checks.steps("hand 2", b, 1, 2, BARRIER);
        checks.same("one barrier of two", b.joined(), 2);
        checks.steps("hand 2", b, 1, 2, BARRIER);
        checks.same("three", b.joined(), 3);
        checks.steps("hand 0", b, 1, 0, BARRIER, BARRIER);
        checks.same("four", b.joined(), 4);
        checks.steps("hand 1", b, 1, 1, BARRIER, BARRIER);
        checks.same("done", b.joined(), -1);
    }

    private static void promise22IsStuck() {
        Barrierbrook b = plain(2);
        checks.no("nothing waits", b.isStuck());
        for (int i = 0; i < 3; i++) b.event(0, 0, i, 0, i);
        checks.no("an event is there", b.isStuck());
        checks.steps("a full channel and out row", b, 0, 0, EVENT, WENT_OUT, EVENT, WENT_OUT, EVENT, WENT_OUT, NOTHING);
        checks.no("the sink could step", b.isStuck());
        b.run(20);
        checks.no("all has flown", b.isStuck());
        b.cut(false);
        checks.steps("a barrier", b, 0, 0, JOINED, WENT_OUT);
        checks.steps("is taken", b, 1, 0, BARRIER, NOTHING);
        checks.no("the other partition has to join", b.isStuck());
        b.run(20);
        checks.no("the cut is done", b.isStuck());
    }
}
