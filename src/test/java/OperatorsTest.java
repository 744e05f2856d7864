/** What the operators of promises 2 to 9 do with records and marks, as 'OPERATORS' in the document tells it. */
public final class OperatorsTest {
    private static final Checks checks = new Checks("OperatorsTest");

    public static void main(String[] args) {
        sourceMarks();
        siftAndChange();
        valuesAreBounded();
        tumble();
        tumbleWithTwoKeys();
        earlyAnswers();
        countOfZero();
        silentAnswers();
        slide();
        slideLate();
        session();
        sessionEarly();
        sessionClosed();
        bunch();
        join();
        joinMarks();
        joinOrder();
        table();
        tableOrder();
        pattern();
        patternRow();
        patternOrder();
        checks.end();
    }

    /** Tells an event of partition 0, and lets it flow through. */
    private static void tell(Barrierbrook b, int source, int time, int key, int value) {
        b.event(source, 0, time, key, value);
        b.run(20);
    }

    private static void correct(Barrierbrook b, int source, int event, int value) {
        b.correct(source, 0, event, value);
        b.run(30);
    }

    /** What a sink gets by now, behind the first ones. */
    private static void gets(String what, Barrierbrook b, int sink, String due) {
        int from = b.given(sink);
        b.run(30);
        b.cut(true);
        checks.same(what, Checks.given(b, sink, from), due);
    }

    /** All that a sink has given out. */
    private static void gave(String what, Barrierbrook b, int sink, String due) {
        checks.same(what, Checks.given(b, sink), due);
    }

    /** 0 source, 1 window, 2 sink. */
    private static Barrierbrook windowed(int kind, int size, int slide, boolean counts, int lateness, int early) {
        Barrierbrook b = new Barrierbrook();
        b.source(1, 0, 100);
        b.window(0, kind, size, slide, counts, lateness, early);
        b.sink(1);
        return b;
    }

    private static void sourceMarks() {
        Barrierbrook b = new Barrierbrook();
        b.source(1, 3, 100);
        b.sink(0);
        tell(b, 0, 3, 0, 0);
        checks.same("no mark at time 3 with delay 3", b.mark(0, 0), -1);
        tell(b, 0, 4, 0, 0);
        checks.same("mark of time 4 with delay 3", b.mark(0, 0), 0);
        tell(b, 0, 10, 0, 0);
        checks.same("mark of time 10", b.mark(0, 0), 6);
        tell(b, 0, 8, 0, 0);
        checks.same("an earlier time lets it stay", b.mark(0, 0), 6);
        checks.same("mark of the sink", b.mark(1, 0), 6);
    }

    private static void siftAndChange() {
        Barrierbrook b = new Barrierbrook();
        b.source(1, 0, 100);
        b.sift(0, 5);
        b.sink(1);
        b.change(0, -3, 7);
        b.sink(3);
        tell(b, 0, 1, 2, 4);
        tell(b, 0, 2, 3, 5);
        tell(b, 0, 3, 4, 6);
        correct(b, 0, 1, 1);
        gets("SIFT of at least 5", b, 2, "3@2=5+ 4@3=6+ 3@2=5-");
        gave("CHANGE by -3 and 7", b, 4, "2@1=-5+ 3@2=-8+ 4@3=-11+ 3@2=-8- 3@2=4+");
    }

    private static void valuesAreBounded() {
        Barrierbrook b = new Barrierbrook();
        b.source(1, 0, 100);
        b.change(0, 9, 0);
        b.change(1, 9, 0);
        b.change(2, 9, 0);
        b.change(3, -1, 1);
        b.window(3, Barrierbrook.BUNCH, 2, 0, false, 0, 0);
        b.sink(4);
        b.sink(5);
        tell(b, 0, 1, 0, 9999);
        tell(b, 0, 2, 0, -9999);
        gets("a CHANGE behind a bound", b, 6, "0@1=-999999+ 0@2=1000000+");
        gave("a sum of bounds", b, 7, "0@2=0+");
        tell(b, 0, 3, 0, 9999);
        tell(b, 0, 4, 0, 9999);
        gets("a sum that is bounded", b, 7, "0@4=1000000+");
        tell(b, 0, 3, 0, -9999);
        tell(b, 0, 4, 0, -9999);
        gets("a sum that is bounded below", b, 7, "0@4=-1000000+");
        Barrierbrook c = new Barrierbrook();
        c.source(1, 0, 100);
        c.change(0, 9, 0);
        c.change(1, 9, 0);
        c.change(2, 9, 0);
        c.join(0, 3, 0);
        c.sink(4);
        c.table(3, 0);
        c.sink(6);
        tell(c, 0, 1, 0, 9999);
        gets("a JOIN that is not bounded", c, 5, "0@1=1000000+");
        tell(c, 0, 2, 0, 0);
        gets("a TABLE that is bounded", c, 7, "0@1=1000000+");
    }

    private static void tumble() {
        Barrierbrook b = windowed(Barrierbrook.TUMBLE, 5, 0, false, 3, 0);
        tell(b, 0, 1, 2, 3);
        tell(b, 0, 4, 2, 4);
        gets("a span that is not over", b, 2, "");
        tell(b, 0, 5, 2, 1);
        gets("a span that is over by mark 4", b, 2, "2@4=7+");
        tell(b, 0, 2, 2, 10);
        gets("a late record", b, 2, "2@4=7- 2@4=17+");
        tell(b, 0, 7, 2, 2);
        tell(b, 0, 0, 2, 1);
        gets("a record at mark 6", b, 2, "2@4=17- 2@4=18+");
        tell(b, 0, 8, 2, 2);
        tell(b, 0, 3, 2, 50);
        gets("a record that is too late at mark 7", b, 2, "");
        checks.same("it is lost", b.lost(1), 1);
        tell(b, 0, 9, 2, 9);
        tell(b, 0, 10, 2, 0);
        gets("the next span", b, 2, "2@9=14+");
        checks.same("net of the first span", b.net(2, 2, 4), 18);
        checks.same("whole of the first span", b.whole(1, 2, 4), 18);
        Barrierbrook c = windowed(Barrierbrook.TUMBLE, 1, 0, true, 0, 0);
        tell(c, 0, 0, 0, 77);
        tell(c, 0, 0, 0, 88);
        tell(c, 0, 1, 0, 99);
        gets("counts by TUMBLE of 1", c, 2, "0@0=2+");
    }

    private static void tumbleWithTwoKeys() {
        Barrierbrook b = windowed(Barrierbrook.TUMBLE, 10, 0, false, 20, 0);
        tell(b, 0, 5, 9, 1);
        tell(b, 0, 3, 1, 2);
        tell(b, 0, 7, 4, 3);
        tell(b, 0, 13, 0, 4);
        gets("the first span of three keys", b, 2, "1@9=2+ 4@9=3+ 9@9=1+");
        b.end(0, 0);
        gets("the second span by the end", b, 2, "0@19=4+");
    }

    private static void earlyAnswers() {
        Barrierbrook b = windowed(Barrierbrook.TUMBLE, 100, 0, false, 0, 2);
        tell(b, 0, 10, 0, 1);
        gets("one record of two", b, 2, "");
        tell(b, 0, 11, 0, 2);
        gets("two of two", b, 2, "0@99=3+");
        tell(b, 0, 12, 0, 4);
        gets("one since it told", b, 2, "");
        tell(b, 0, 13, 0, 8);
        gets("two since it told", b, 2, "0@99=3- 0@99=15+");
        tell(b, 0, 14, 0, 16);
        tell(b, 0, 15, 1, 5);
        b.end(0, 0);
        gets("what differs when it is over", b, 2, "0@99=15- 0@99=31+ 1@99=5+");
        Barrierbrook c = windowed(Barrierbrook.TUMBLE, 100, 0, true, 0, 1);
        tell(c, 0, 10, 0, 1);
        tell(c, 0, 10, 0, 1);
        c.end(0, 0);
        gets("what told just that does not tell again", c, 2, "0@99=1+ 0@99=1- 0@99=2+");
    }

    /** 0 source, 1 sift of at least 5, 2 window, 3 sink: a correction to 0 takes a record away. */
    private static Barrierbrook sifted(int lateness, int early) {
        Barrierbrook b = new Barrierbrook();
        b.source(1, 0, 100);
        b.sift(0, 5);
        b.window(1, Barrierbrook.TUMBLE, 10, 0, false, lateness, early);
        b.sink(2);
        return b;
    }

    private static void countOfZero() {
        Barrierbrook b = sifted(0, 0);
        tell(b, 0, 1, 0, 5);
        correct(b, 0, 0, 0);
        b.end(0, 0);
        gets("a count of 0 tells nothing", b, 3, "");
        checks.same("whole of a count of 0", b.whole(2, 0, 9), 0);
        Barrierbrook c = sifted(0, 3);
        tell(c, 0, 1, 0, 5);
        correct(c, 0, 0, 0);
        tell(c, 0, 1, 0, 6);
        gets("the third record lets it tell", c, 3, "0@9=6+");
        correct(c, 0, 3, 0);
        gets("one record since", c, 3, "");
        c.end(0, 0);
        gets("it takes back when it is over with a count of 0", c, 3, "0@9=6-");
        Barrierbrook d = sifted(100, 0);
        tell(d, 0, 1, 0, 5);
        tell(d, 0, 20, 0, 7);
        gets("it tells", d, 3, "0@9=5+");
        correct(d, 0, 0, 0);
        gets("it takes back and tells nothing", d, 3, "0@9=5-");
        tell(d, 0, 2, 0, 8);
        gets("it tells again", d, 3, "0@9=8+");
        Barrierbrook e = windowed(Barrierbrook.TUMBLE, 10, 0, false, 0, 0);
        tell(e, 0, 1, 0, 5);
        tell(e, 0, 2, 0, -5);
        e.end(0, 0);
        gets("a sum of 0 is told", e, 2, "0@9=0+");
    }

    private static void silentAnswers() {
        Barrierbrook b = sifted(0, 2);
        tell(b, 0, 1, 0, 5);
        correct(b, 0, 0, 0);
        gets("two records, and a count of 0", b, 3, "");
        tell(b, 0, 1, 0, 7);
        gets("three records since ever, as it never told", b, 3, "0@9=7+");
    }

    private static void slide() {
        Barrierbrook b = windowed(Barrierbrook.SLIDE, 6, 2, false, 0, 0);
        tell(b, 0, 1, 0, 5);
        tell(b, 0, 0, 0, 1);
        tell(b, 0, 9, 0, 0);
        gets("spans also from below 0", b, 2, "0@1=6+ 0@3=6+ 0@5=6+");
        checks.same("whole of a span from below 0", b.whole(1, 0, 1), 6);
        checks.same("whole of no span", b.whole(1, 0, 2), 0);
        Barrierbrook c = windowed(Barrierbrook.SLIDE, 5, 3, true, 0, 0);
        tell(c, 0, 3, 7, 5);
        tell(c, 0, 5, 7, 5);
        c.end(0, 0);
        gets("slide that is not a part of the size", c, 2, "7@4=1+ 7@7=2+");
        Barrierbrook d = windowed(Barrierbrook.SLIDE, 4, 4, true, 0, 0);
        tell(d, 0, 4, 7, 5);
        d.end(0, 0);
        gets("a slide as long as the size", d, 2, "7@7=1+");
        Barrierbrook e = windowed(Barrierbrook.SLIDE, 4, 2, false, 0, 1);
        tell(e, 0, 2, 7, 5);
        gets("spans by rising beginnings", e, 2, "7@3=5+ 7@5=5+");
    }

    private static void slideLate() {
        Barrierbrook b = windowed(Barrierbrook.SLIDE, 6, 2, false, 4, 0);
        tell(b, 0, 1, 0, 5);
        tell(b, 0, 9, 0, 0);
        gets("spans that are over", b, 2, "0@1=5+ 0@3=5+ 0@5=5+");
        tell(b, 0, 4, 0, 3);
        gets("a late record of spans that are over, and one that is not", b, 2, "0@5=5- 0@5=8+ 0@7=3+");
        tell(b, 0, 11, 0, 0);
        gets("the third span", b, 2, "0@9=3+");
        tell(b, 0, 4, 0, 1);
        checks.same("too late for one of them is not lost", b.lost(1), 0);
        gets("only those that are not closed", b, 2, "0@7=3- 0@7=4+ 0@9=3- 0@9=4+");
        checks.same("whole without what was too late", b.whole(1, 0, 5), 8);
        checks.same("whole with what was not", b.whole(1, 0, 7), 4);
        tell(b, 0, 1, 0, 1);
        checks.same("too late for all is lost", b.lost(1), 1);
    }

    private static void session() {
        Barrierbrook b = windowed(Barrierbrook.SESSION, 5, 0, false, 10, 0);
        tell(b, 0, 10, 0, 1);
        tell(b, 0, 20, 0, 2);
        gets("the first span is over", b, 2, "0@14=1+");
        tell(b, 0, 15, 0, 4);
        gets("it touches both and takes back", b, 2, "0@14=1-");
        tell(b, 0, 12, 1, 9);
        gets("spans of another key are apart", b, 2, "1@16=9+");
        tell(b, 0, 25, 0, 8);
        tell(b, 0, 29, 0, 0);
        gets("it has not ended yet", b, 2, "");
        tell(b, 0, 40, 0, 0);
        gets("it has grown by what touches it", b, 2, "0@33=15+");
        tell(b, 0, 26, 0, 1);
        gets("a late record of its own", b, 2, "0@33=15- 0@33=16+");
        Barrierbrook c = windowed(Barrierbrook.SESSION, 5, 0, true, 100, 1);
        tell(c, 0, 10, 0, 0);
        tell(c, 0, 16, 0, 0);
        gets("one apart", c, 2, "0@14=1+ 0@20=1+");
        tell(c, 0, 11, 0, 0);
        gets("that joins both, by rising beginnings", c, 2, "0@14=1- 0@20=1- 0@20=3+");
    }

    private static void sessionEarly() {
        Barrierbrook b = windowed(Barrierbrook.SESSION, 5, 0, false, 10, 3);
        tell(b, 0, 10, 0, 1);
        tell(b, 0, 11, 0, 2);
        gets("two of three", b, 2, "");
        tell(b, 0, 12, 0, 4);
        gets("three of three", b, 2, "0@16=7+");
        tell(b, 0, 13, 0, 8);
        gets("all count as come since", b, 2, "0@16=7- 0@17=15+");
    }

    private static void sessionClosed() {
        Barrierbrook b = windowed(Barrierbrook.SESSION, 5, 0, false, 10, 0);
        tell(b, 0, 10, 0, 1);
        tell(b, 0, 15, 0, 2);
        tell(b, 0, 29, 1, 0);
        gets("one span of two records", b, 2, "0@19=3+");
        tell(b, 0, 12, 0, 4);
        gets("alone it would be closed, joined it is not", b, 2, "0@19=3- 0@19=7+");
        tell(b, 0, 12, 2, 4);
        checks.same("alone it is closed", b.lost(1), 1);
        tell(b, 0, 30, 1, 0);
        tell(b, 0, 12, 0, 4);
        checks.same("closed by mark 29", b.lost(1), 2);
        tell(b, 0, 20, 0, 5);
        gets("what touches a span that is gone is alone", b, 2, "0@24=5+");
    }

    private static void bunch() {
        Barrierbrook b = windowed(Barrierbrook.BUNCH, 3, 0, false, 0, 1);
        tell(b, 0, 50, 0, 1);
        tell(b, 0, 9, 0, 2);
        tell(b, 0, 20, 1, 100);
        gets("two of three", b, 2, "");
        tell(b, 0, 5, 0, 4);
        gets("three of three, none late", b, 2, "0@5=7+");
        tell(b, 0, 6, 0, 8);
        correct(b, 0, 4, 16);
        tell(b, 0, 7, 0, 32);
        gets("takes back one and adds one", b, 2, "");
        tell(b, 0, 8, 0, 64);
        gets("three again", b, 2, "0@8=112+");
        checks.same("none is lost", b.lost(1), 0);
        Barrierbrook c = windowed(Barrierbrook.BUNCH, 2, 0, true, 0, 0);
        for (int i = 0; i < 5; i++) tell(c, 0, i, 3, 9);
        gets("counts", c, 2, "3@1=2+ 3@3=2+");
        Barrierbrook d = new Barrierbrook();
        d.source(1, 0, 100);
        d.sift(0, 9);
        d.window(1, Barrierbrook.BUNCH, 2, 0, false, 0, 0);
        d.sink(2);
        tell(d, 0, 1, 0, 5);
        tell(d, 0, 2, 0, 6);
        d.rule(1, 0);
        d.run(1);
        correct(d, 0, 0, -1);
        correct(d, 0, 1, -1);
        gets("a count of -2 is not the size", d, 3, "");
        for (int i = 1; i <= 4; i++) tell(d, 0, i, 0, 10);
        gets("a count below 0 comes back up", d, 3, "0@4=29+");
    }

    /** 0 source, 1 source, 2 operator, 3 sink. */
    private static Barrierbrook joined(int reach) {
        Barrierbrook b = new Barrierbrook();
        b.source(1, 0, 100);
        b.source(1, 0, 100);
        b.join(0, 1, reach);
        b.sink(2);
        return b;
    }

    private static void join() {
        Barrierbrook b = joined(3);
        tell(b, 0, 5, 0, 2);
        tell(b, 1, 8, 0, 1);
        gets("times that differ by the reach", b, 3, "0@8=7+");
        tell(b, 1, 9, 0, 1);
        tell(b, 1, 5, 1, 1);
        gets("times that differ by more, and another key", b, 3, "");
        tell(b, 1, 2, 0, -4);
        gets("the later time is the first one's", b, 3, "0@5=2+");
        correct(b, 0, 0, 3);
        gets("a correction of the first input", b, 3, "0@8=7- 0@5=2- 0@8=10+ 0@5=5+");
        correct(b, 1, 0, 2);
        gets("a correction of the second input", b, 3, "0@8=7- 0@8=7+ 0@8=10- 0@8=8+ 0@8=8- 0@8=11+");
    }

    private static void joinMarks() {
        Barrierbrook b = joined(3);
        tell(b, 0, 4, 0, 1);
        tell(b, 0, 8, 5, 0);
        tell(b, 1, 8, 6, 0);
        checks.same("the mark", b.mark(2, 0), 7);
        tell(b, 1, 4, 0, 1);
        gets("kept as long as time and reach are the mark", b, 3, "0@4=4+");
        tell(b, 1, 3, 0, 1);
        gets("less than the mark", b, 3, "");
        checks.same("it is lost", b.lost(2), 1);
        tell(b, 0, 9, 5, 0);
        tell(b, 1, 9, 6, 0);
        checks.same("the next mark", b.mark(2, 0), 8);
        tell(b, 1, 5, 0, 1);
        gets("the first record is gone", b, 3, "");
        checks.same("this one is not lost", b.lost(2), 1);
        tell(b, 0, 4, 0, 1);
        checks.same("this one is lost", b.lost(2), 2);
    }

    private static void joinOrder() {
        Barrierbrook b = joined(100);
        tell(b, 0, 30, 0, 1);
        tell(b, 0, 10, 0, 2);
        tell(b, 0, 20, 0, 3);
        tell(b, 1, 15, 0, 0);
        gets("as they came", b, 3, "0@30=3+ 0@15=6+ 0@20=9+");
    }

    /** 0 source, 1 source, 2 table of both, 3 sink. */
    private static Barrierbrook tabled() {
        Barrierbrook b = new Barrierbrook();
        b.source(1, 0, 100);
        b.source(1, 0, 100);
        b.table(0, 1);
        b.sink(2);
        return b;
    }

    private static void table() {
        Barrierbrook b = tabled();
        tell(b, 0, 5, 0, 10);
        tell(b, 1, 3, 0, 1);
        tell(b, 1, 5, 0, 2);
        tell(b, 1, 5, 0, 3);
        gets("it waits for its time", b, 3, "");
        tell(b, 0, 6, 0, 20);
        tell(b, 1, 6, 0, 4);
        checks.same("the mark is its time", b.mark(2, 0), 5);
        gets("the last one of its time", b, 3, "0@5=33+");
        tell(b, 0, 4, 0, 5);
        gets("one that comes later does not wait", b, 3, "0@4=16+");
        tell(b, 0, 2, 0, 5);
        gets("nothing before there was one", b, 3, "");
        tell(b, 0, 5, 1, 5);
        gets("nothing for another key", b, 3, "");
        correct(b, 1, 2, 9);
        tell(b, 0, 5, 0, 1);
        gets("the sign -1 is passed over", b, 3, "0@5=12+");
        correct(b, 0, 0, 0);
        gets("signs of the first input", b, 3, "0@5=39- 0@5=9+");
    }

    private static void tableOrder() {
        Barrierbrook b = tabled();
        tell(b, 1, 0, 1, 1);
        tell(b, 1, 0, 2, 2);
        tell(b, 0, 30, 1, 1);
        tell(b, 0, 20, 2, 2);
        tell(b, 0, 20, 1, 3);
        tell(b, 0, 20, 1, 2);
        tell(b, 0, 10, 2, 4);
        b.end(0, 0);
        b.end(1, 0);
        gets("by times, keys, and as they came", b, 3, "2@10=14+ 1@20=10+ 1@20=7+ 2@20=8+ 1@30=4+");
        checks.same("the mark comes behind", b.mark(3, 0), 20000);
    }

    /** 0 source, 1 pattern, 2 sink. */
    private static Barrierbrook patterned(int low, int high, int many, int reach) {
        return patterned(low, high, many, reach, 0);
    }

    private static Barrierbrook patterned(int low, int high, int many, int reach, int delay) {
        Barrierbrook b = new Barrierbrook();
        b.source(1, delay, 100);
        b.pattern(0, low, high, many, reach);
        b.sink(1);
        return b;
    }

    private static void pattern() {
        Barrierbrook b = patterned(5, 9, 2, 10);
        tell(b, 0, 1, 3, 5);
        tell(b, 0, 2, 3, 8);
        tell(b, 0, 11, 3, 9);
        gets("it waits for its time", b, 2, "");
        tell(b, 0, 12, 4, 0);
        gets("the first is the reach ahead", b, 2, "3@11=9+");
        tell(b, 0, 12, 3, 9);
        tell(b, 0, 13, 3, 9);
        tell(b, 0, 14, 3, 9);
        tell(b, 0, 15, 4, 0);
        gets("the row was empty", b, 2, "3@14=9+");
        Barrierbrook c = patterned(5, 9, 2, 10);
        tell(c, 0, 1, 3, 5);
        tell(c, 0, 2, 3, 8);
        tell(c, 0, 12, 3, 9);
        tell(c, 0, 13, 3, 9);
        tell(c, 0, 14, 0, 0);
        gets("more than the reach ahead: it is put into the row, the first one goes", c, 2, "");
        tell(c, 0, 22, 3, 9);
        tell(c, 0, 23, 3, 0);
        gets("the row now is from 12", c, 2, "3@22=9+");
        Barrierbrook d = patterned(5, 5, 1, 1000);
        tell(d, 0, 1, 0, 4);
        tell(d, 0, 2, 0, 5);
        tell(d, 0, 3, 0, 5);
        tell(d, 0, 4, 0, 4);
        gets("low and high the same; below low is nothing", d, 2, "0@3=5+");
    }

    private static void patternRow() {
        Barrierbrook b = patterned(0, 9, 1, 5);
        tell(b, 0, 10, 0, 0);
        correct(b, 0, 0, 9);
        tell(b, 0, 11, 1, 0);
        gets("the sign -1 is nothing", b, 2, "0@10=9+");
        tell(b, 0, 10, 0, 1);
        tell(b, 0, 3, 0, 9);
        gets("one that comes later, far ahead of the first time", b, 2, "0@3=9+");
        Barrierbrook c = patterned(0, 9, 1, 0);
        tell(c, 0, 10, 0, 0);
        tell(c, 0, 10, 1, 9);
        tell(c, 0, 11, 0, 0);
        gets("keys have rows of their own", c, 2, "");
        tell(c, 0, 10, 0, 9);
        gets("reach 0", c, 2, "0@10=9+");
    }

    private static void patternOrder() {
        Barrierbrook b = patterned(0, 5, 1, 1000, 50);
        tell(b, 0, 30, 2, 6);
        tell(b, 0, 20, 2, 5);
        tell(b, 0, 20, 1, 8);
        tell(b, 0, 25, 1, 7);
        tell(b, 0, 20, 2, 9);
        b.end(0, 0);
        gets("by times, keys, and as they came", b, 2, "2@20=9+ 1@25=7+");
        Barrierbrook c = patterned(0, 5, 1, 1000);
        c.event(0, 0, 30, 2, 6);
        c.event(0, 0, 20, 2, 5);
        c.end(0, 0);
        c.run(50);
        gets("those that come later do not wait", c, 2, "2@30=6+");
    }
}
