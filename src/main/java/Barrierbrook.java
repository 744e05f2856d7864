import java.util.Arrays;

/** A stream processor that is gone through step by step: README.md says how to use it. */
public final class Barrierbrook {
    public static final int TUMBLE = 0, SLIDE = 1, SESSION = 2, BUNCH = 3;
    public static final int NOTHING = 0, WENT_OUT = 1, JOINED = 2, EVENT = 3, RESTED = 4, RULES = 5, RECORD = 6, MARK = 7, REST = 8, BARRIER = 9;

    private static final int MOST_OPERATORS = 8;
    private static final int MOST_HANDS = 3;
    // A hand has a channel for each hand that each of its two inputs may have.
    private static final int MOST_CHANNELS = 2 * MOST_HANDS;
    private static final int ROOM = 4;
    private static final int KEYS = 16;
    private static final int MOST_EVENTS = 60;
    private static final int MOST_RULES = 20;
    private static final int MOST_TIME = 9999;
    private static final int MOST_NUMBER = 9999;
    private static final int END_MARK = 20000;
    private static final int BOUND = 1000000;
    // No value that is given out is below the bound.
    private static final int GONE = -BOUND - 1;
    // Far above what the rows of 60 events can come to.
    private static final int MOST_CELLS = 1000000;

    // Columns of an item, of an event, and of what a sink has got (whose column 0 is the hand that got it).
    // In all rows the key stands in column 1, so that rows of any kind can be dealt out by keys.
    private static final int KIND = 0, KEY = 1, TIME = 2, VALUE = 3, SIGN = 4;
    private static final int ITEM_WIDTH = 5;
    // Columns that what a hand keeps has in place of those: a record that waits has its time first; what a JOIN
    // keeps has the input first; a span has its last time first; times of a JOIN or PATTERN stand at the end,
    // as they must not sort.
    private static final int WHEN = 0, SIDE = 0, LAST = 0, BEGIN = 2, SUM = 3, COUNT = 4, AT = 5;
    private static final int FRESH = 5, RECORDS = 6, TOLD = 7, LAST_TOLD = 8;
    private static final int KEPT_WIDTH = 9;
    private static final int FOR_THE_CUT = -1;

    private final Operator[] operators = new Operator[MOST_OPERATORS];
    private int size;
    private boolean begun;
    private int events;
    private int ticks;
    private int cuts;
    private boolean cutGoesOn;
    private int joinedHands;
    private int lastDone = -1;
    private boolean lastOvertook;

    public Barrierbrook() {
    }

    // ---- the graph

    public int source(int partitions, int delay, int patience)
        throws IllegalArgumentException, IllegalStateException {
        boolean fits = partitions >= 1 && partitions <= MOST_HANDS && delay >= 0 && delay <= 100;
        if (!fits || patience < 1 || patience > 100) {
            throw new IllegalArgumentException("partitions, delay or patience is out of range");
        }
        refuseWhenLate();
        return add(new Source(partitions, delay, patience));
    }

    public int sift(int input, int least)
        throws IndexOutOfBoundsException, IllegalArgumentException, IllegalStateException {
        Operator from = inputAt(input);
        if (from == null) {
            throw new IndexOutOfBoundsException("no such input");
        }
        if (!isNumber(least)) {
            throw new IllegalArgumentException("least is out of range");
        }
        refuseWhenLate();
        return add(new Sift(from, least));
    }

    public int change(int input, int factor, int more)
        throws IndexOutOfBoundsException, IllegalArgumentException, IllegalStateException {
        Operator from = inputAt(input);
        if (from == null) {
            throw new IndexOutOfBoundsException("no such input");
        }
        if (factor < -9 || factor > 9 || !isNumber(more)) {
            throw new IllegalArgumentException("factor or more is out of range");
        }
        refuseWhenLate();
        return add(new Change(from, factor, more));
    }

    public int window(int input, int kind, int size, int slide, boolean counts, int lateness, int early)
        throws IndexOutOfBoundsException, IllegalArgumentException, IllegalStateException {
        Operator from = inputAt(input);
        if (from == null) {
            throw new IndexOutOfBoundsException("no such input");
        }
        if (kind < TUMBLE || kind > BUNCH || size < 1 || size > 100) {
            throw new IllegalArgumentException("kind or size is out of range");
        }
        if (kind == SLIDE && (slide < (size + 2) / 3 || slide > size)) {
            throw new IllegalArgumentException("slide is out of range");
        }
        if (lateness < 0 || lateness > 100 || early < 0 || early > 100) {
            throw new IllegalArgumentException("lateness or early is out of range");
        }
        if (from.gathers) {
            throw new IllegalArgumentException("a WINDOW or JOIN stands above");
        }
        refuseWhenLate();
        return add(new Window(from, kind, size, slide, counts, lateness, early));
    }

    public int join(int input, int other, int reach)
        throws IndexOutOfBoundsException, IllegalArgumentException, IllegalStateException {
        Operator from = inputAt(input);
        Operator with = inputAt(other);
        if (from == null || with == null) {
            throw new IndexOutOfBoundsException("no such input");
        }
        if (from == with || reach < 0 || reach > 100) {
            throw new IllegalArgumentException("both inputs are the same, or reach is out of range");
        }
        if (from.gathers || with.gathers) {
            throw new IllegalArgumentException("a WINDOW or JOIN stands above");
        }
        refuseWhenLate();
        return add(new Join(from, with, reach));
    }

    public int table(int input, int other)
        throws IndexOutOfBoundsException, IllegalArgumentException, IllegalStateException {
        Operator from = inputAt(input);
        Operator with = inputAt(other);
        if (from == null || with == null) {
            throw new IndexOutOfBoundsException("no such input");
        }
        if (from == with) {
            throw new IllegalArgumentException("both inputs are the same");
        }
        refuseWhenLate();
        return add(new Table(from, with));
    }

    public int pattern(int input, int low, int high, int many, int reach)
        throws IndexOutOfBoundsException, IllegalArgumentException, IllegalStateException {
        Operator from = inputAt(input);
        if (from == null) {
            throw new IndexOutOfBoundsException("no such input");
        }
        if (!isNumber(low) || !isNumber(high) || high < low) {
            throw new IllegalArgumentException("low or high is out of range");
        }
        if (many < 1 || many > 5 || reach < 0 || reach > 1000) {
            throw new IllegalArgumentException("many or reach is out of range");
        }
        refuseWhenLate();
        return add(new Pattern(from, low, high, many, reach));
    }

    public int sink(int input) throws IndexOutOfBoundsException, IllegalStateException {
        Operator from = inputAt(input);
        if (from == null) {
            throw new IndexOutOfBoundsException("no such input");
        }
        refuseWhenLate();
        return add(new Sink(from));
    }

    public int rescale(int operator, int hands)
        throws IndexOutOfBoundsException, IllegalArgumentException, IllegalStateException {
        Operator scaled = operatorAt(operator);
        if (scaled == null) {
            throw new IndexOutOfBoundsException("no such operator");
        }
        if (scaled instanceof Source || hands < 1 || hands > MOST_HANDS) {
            throw new IllegalArgumentException("it is a source, or hands is out of range");
        }
        if (lastOvertook) {
            throw new IllegalStateException("the last cut that is done overtook");
        }
        int had = scaled.count;
        scaled.count = hands;
        // Also with as many hands as it had: what they know is shared out all the same.
        scaled.anew = true;
        bringBack();
        return had;
    }

    public boolean isSame(int one, int other) throws IndexOutOfBoundsException {
        Operator left = operatorAt(one);
        Operator right = operatorAt(other);
        if (left == null || right == null) {
            throw new IndexOutOfBoundsException("no such operator");
        }
        return left.twin == right.twin;
    }

    // ---- events, rules, ticks

    public int event(int source, int partition, int time, int key, int value)
        throws IndexOutOfBoundsException, IllegalArgumentException, IllegalStateException {
        Source told = sourceAt(source, partition);
        if (told == null) {
            throw new IndexOutOfBoundsException("no such source or partition");
        }
        if (time < 0 || time > MOST_TIME || !isKey(key) || !isNumber(value)) {
            throw new IllegalArgumentException("time, key or value is out of range");
        }
        if (told.endTold[partition] || events >= MOST_EVENTS) {
            throw new IllegalStateException("the end was told, or there are too many events");
        }
        begun = true;
        events++;
        told.partitions[partition].add(RECORD, key, time, value, 1);
        return told.partitions[partition].size;
    }

    public int correct(int source, int partition, int event, int value)
        throws IndexOutOfBoundsException, IllegalArgumentException, IllegalStateException {
        Source told = sourceAt(source, partition);
        if (told == null || event < 0 || event >= told.partitions[partition].size) {
            throw new IndexOutOfBoundsException("no such source, partition or event");
        }
        Rows row = told.partitions[partition];
        if (row.at(event, SIGN) != 1 || !isNumber(value)) {
            throw new IllegalArgumentException("the event has the sign -1, or value is out of range");
        }
        if (told.endTold[partition] || events > MOST_EVENTS - 2) {
            throw new IllegalStateException("the end was told, or there are too many events");
        }
        begun = true;
        events += 2;
        int key = row.at(event, KEY);
        int time = row.at(event, TIME);
        row.add(RECORD, key, time, row.at(event, VALUE), -1);
        row.add(RECORD, key, time, value, 1);
        return row.size;
    }

    public void end(int source, int partition) throws IndexOutOfBoundsException, IllegalStateException {
        Source told = sourceAt(source, partition);
        if (told == null) {
            throw new IndexOutOfBoundsException("no such source or partition");
        }
        if (told.endTold[partition]) {
            throw new IllegalStateException("the end was told");
        }
        begun = true;
        told.endTold[partition] = true;
    }

    public int rule(int operator, int least)
        throws IndexOutOfBoundsException, IllegalArgumentException, IllegalStateException {
        Operator told = operatorAt(operator);
        if (told == null) {
            throw new IndexOutOfBoundsException("no such operator");
        }
        if (!(told instanceof Sift) || !isNumber(least)) {
            throw new IllegalArgumentException("it is no SIFT, or least is out of range");
        }
        Sift sift = (Sift) told;
        if (sift.told >= sift.later.length) {
            throw new IllegalStateException("there are too many rules");
        }
        begun = true;
        sift.later[sift.told] = least;
        sift.told++;
        return sift.told;
    }

    public int tick(int ticks) throws IllegalArgumentException {
        if (ticks < 1 || ticks > 1000) {
            throw new IllegalArgumentException("ticks is out of range");
        }
        this.ticks += ticks;
        return this.ticks;
    }

    // ---- steps, cuts, crashes

    public int step(int operator, int hand) throws IndexOutOfBoundsException {
        Operator stepping = operatorAt(operator);
        Hand stepped = handOf(stepping, hand);
        if (stepping == null || stepped == null) {
            throw new IndexOutOfBoundsException("no such operator or hand");
        }
        begun = true;
        return letStep(stepping, stepped);
    }

    public int run(int rounds) throws IllegalArgumentException {
        if (rounds < 1 || rounds > 50) {
            throw new IllegalArgumentException("rounds is out of range");
        }
        begun = true;
        int done = 0;
        for (int round = 0; round < rounds; round++) {
            for (int i = 0; i < size; i++) {
                Operator stepping = operators[i];
                for (int h = 0; h < stepping.count; h++) {
                    if (letStep(stepping, stepping.hands[h]) != NOTHING) {
                        done++;
                    }
                }
            }
        }
        return done;
    }

    public int cut(boolean overtakes) throws IllegalStateException {
        if (size == 0 || cutGoesOn) {
            throw new IllegalStateException("there are no operators, or a cut goes on");
        }
        begun = true;
        cuts++;
        if (overtakes) {
            for (int i = 0; i < size; i++) {
                for (int h = 0; h < operators[i].count; h++) {
                    operators[i].keepForCut(operators[i].hands[h], true);
                    operators[i].keepGot(operators[i].hands[h]);
                }
            }
            finishCut(true);
        } else {
            cutGoesOn = true;
        }
        return cuts - 1;
    }

    public int crash() {
        bringBack();
        return lastDone;
    }

    public int joined() {
        return cutGoesOn ? joinedHands : -1;
    }

    public boolean isStuck() {
        boolean waits = false;
        for (int i = 0; i < size; i++) {
            for (int h = 0; h < operators[i].count; h++) {
                Hand hand = operators[i].hands[h];
                if (couldStep(operators[i], hand)) {
                    return false;
                }
                waits = waits || hand.out.size > 0 || hand.countWaiting() > 0;
            }
        }
        return waits;
    }

    // ---- what there is

    public int hands(int operator) throws IndexOutOfBoundsException {
        Operator asked = operatorAt(operator);
        if (asked == null) {
            throw new IndexOutOfBoundsException("no such operator");
        }
        return asked.count;
    }

    public int mark(int operator, int hand) throws IndexOutOfBoundsException {
        Hand asked = handOf(operatorAt(operator), hand);
        if (asked == null) {
            throw new IndexOutOfBoundsException("no such operator or hand");
        }
        return asked.mark;
    }

    public boolean rests(int operator, int hand) throws IndexOutOfBoundsException {
        Hand asked = handOf(operatorAt(operator), hand);
        if (asked == null) {
            throw new IndexOutOfBoundsException("no such operator or hand");
        }
        return asked.rests;
    }

    public int outRow(int operator, int hand) throws IndexOutOfBoundsException {
        Hand asked = handOf(operatorAt(operator), hand);
        if (asked == null) {
            throw new IndexOutOfBoundsException("no such operator or hand");
        }
        return asked.out.size;
    }

    public int waiting(int operator, int hand) throws IndexOutOfBoundsException {
        Hand asked = handOf(operatorAt(operator), hand);
        if (asked == null) {
            throw new IndexOutOfBoundsException("no such operator or hand");
        }
        return asked.countWaiting();
    }

    public int lost(int operator) throws IndexOutOfBoundsException {
        Operator asked = operatorAt(operator);
        if (asked == null) {
            throw new IndexOutOfBoundsException("no such operator");
        }
        int lost = 0;
        for (int h = 0; h < asked.count; h++) {
            lost += asked.hands[h].lost;
        }
        return lost;
    }

    public long net(int sink, int key, int time) throws IndexOutOfBoundsException, IllegalArgumentException {
        Sink asked = sinkAt(sink);
        if (asked == null) {
            throw new IndexOutOfBoundsException("no such sink");
        }
        if (!isKey(key) || time < 0 || time > END_MARK) {
            throw new IllegalArgumentException("key or time is out of range");
        }
        Rows out = asked.gone;
        long sum = 0;
        for (int row = 0; row < out.size; row++) {
            if (out.at(row, KEY) == key && out.at(row, TIME) == time) {
                sum += (long) out.at(row, SIGN) * out.at(row, VALUE);
            }
        }
        return sum;
    }

    public int whole(int operator, int key, int time) throws IndexOutOfBoundsException, IllegalArgumentException {
        Operator asked = operatorAt(operator);
        if (asked == null) {
            throw new IndexOutOfBoundsException("no such operator");
        }
        if (!(asked instanceof Window) || !isKey(key) || time < 0 || time > END_MARK) {
            throw new IllegalArgumentException("it is no such window, or key or time is out of range");
        }
        Window window = (Window) asked;
        if (!window.hasSpansOfTime() || window.origin == null) {
            throw new IllegalArgumentException("it is no such window");
        }
        return window.tellInTheEnd(key, time);
    }

    public int given(int sink) throws IndexOutOfBoundsException {
        Sink asked = sinkAt(sink);
        if (asked == null) {
            throw new IndexOutOfBoundsException("no such sink");
        }
        return asked.gone.size;
    }

    public int givenAt(int sink, int place, int what) throws IndexOutOfBoundsException, IllegalArgumentException {
        Sink asked = sinkAt(sink);
        if (asked == null || place < 0 || place >= asked.gone.size) {
            throw new IndexOutOfBoundsException("no such sink or place");
        }
        if (what < 0 || what > 3) {
            throw new IllegalArgumentException("what is out of range");
        }
        return asked.gone.at(place, KEY + what);
    }

    public int pending(int sink) throws IndexOutOfBoundsException {
        Sink asked = sinkAt(sink);
        if (asked == null) {
            throw new IndexOutOfBoundsException("no such sink");
        }
        return asked.got.size;
    }

    // ---- what the calls share

    private static boolean isNumber(int number) {
        return number >= -MOST_NUMBER && number <= MOST_NUMBER;
    }

    private static boolean isKey(int key) {
        return key >= 0 && key < KEYS;
    }

    private static int bounded(int value) {
        return value < -BOUND ? -BOUND : value > BOUND ? BOUND : value;
    }

    private Operator operatorAt(int number) {
        return number < 0 || number >= size ? null : operators[number];
    }

    private Operator inputAt(int number) {
        Operator input = operatorAt(number);
        return input instanceof Sink ? null : input;
    }

    private Source sourceAt(int number, int partition) {
        Operator found = operatorAt(number);
        if (!(found instanceof Source) || partition < 0 || partition >= found.count) {
            return null;
        }
        return (Source) found;
    }

    private Sink sinkAt(int number) {
        Operator found = operatorAt(number);
        return found instanceof Sink ? (Sink) found : null;
    }

    private static Hand handOf(Operator operator, int hand) {
        return operator == null || hand < 0 || hand >= operator.count ? null : operator.hands[hand];
    }

    private void refuseWhenLate() {
        if (begun || size >= MOST_OPERATORS) {
            throw new IllegalStateException("there are enough operators, or it is too late");
        }
    }

    private int add(Operator added) {
        added.number = size;
        added.twin = added;
        for (int i = size - 1; i >= 0; i--) {
            if (added.isLike(operators[i])) {
                added.twin = operators[i];
            }
        }
        added.gathers = added instanceof Window || added instanceof Join;
        addBehind(added.first, added);
        addBehind(added.second, added);
        operators[size] = added;
        size++;
        return added.number;
    }

    private static void addBehind(Operator input, Operator added) {
        if (input != null && input.followed < input.followers.length) {
            input.followers[input.followed] = added;
            input.followed++;
            added.gathers = added.gathers || input.gathers;
        }
    }

    private int letStep(Operator operator, Hand hand) {
        if (hand.out.size > 0) {
            return operator.sendOut(hand) ? WENT_OUT : NOTHING;
        }
        if (operator instanceof Source) {
            return letSourceStep((Source) operator, hand);
        }
        if (operator instanceof Sift && ((Sift) operator).hasRules(hand)) {
            hand.rules = ((Sift) operator).told;
            return RULES;
        }
        int kind = takeItem(operator, hand);
        if (kind == BARRIER) {
            if (operator.holdsAll(hand)) {
                joinCut(operator, hand);
            }
        } else if (kind != NOTHING) {
            operator.settle(hand);
        }
        return kind;
    }

    private int letSourceStep(Source source, Hand hand) {
        if (cutGoesOn && !hand.inCut) {
            joinCut(source, hand);
            return JOINED;
        }
        if (source.hasNext(hand)) {
            source.takeNext(hand, ticks);
            return EVENT;
        }
        if (source.couldRest(hand, ticks)) {
            hand.rests = true;
            hand.out.add(REST, 0, 0, 0, 0);
            return RESTED;
        }
        return NOTHING;
    }

    /** Takes an item from a channel, and does what it brings if it is a record; returns its kind, or NOTHING. */
    private static int takeItem(Operator operator, Hand hand) {
        int channel = operator.findChannel(hand);
        if (channel < 0) {
            return NOTHING;
        }
        Rows items = hand.channels[channel];
        int kind = items.at(0, KIND);
        int key = items.at(0, KEY);
        int time = items.at(0, TIME);
        int value = items.at(0, VALUE);
        int sign = items.at(0, SIGN);
        items.dropFirst();
        hand.next = (channel + 1) % MOST_CHANNELS;
        if (kind == BARRIER) {
            hand.held[channel] = true;
        } else {
            hand.hear(channel, kind, time);
        }
        if (kind == RECORD) {
            operator.receive(hand, channel / MOST_HANDS, key, time, value, sign);
        }
        return kind;
    }

    /** Says whether a step of this hand would do something, in the order in which letStep tries. */
    private boolean couldStep(Operator operator, Hand hand) {
        if (hand.out.size > 0) {
            return operator.hasRoom(hand);
        }
        if (operator instanceof Source) {
            Source source = (Source) operator;
            return cutGoesOn && !hand.inCut || source.hasNext(hand) || source.couldRest(hand, ticks);
        }
        if (operator instanceof Sift && ((Sift) operator).hasRules(hand)) {
            return true;
        }
        return operator.findChannel(hand) >= 0;
    }

    private void joinCut(Operator operator, Hand hand) {
        operator.keepForCut(hand, false);
        operator.keepGot(hand);
        hand.inCut = true;
        hand.holdNone();
        hand.out.add(BARRIER, 0, 0, 0, 0);
        joinedHands++;
        int all = 0;
        for (int i = 0; i < size; i++) {
            all += operators[i].count;
        }
        if (joinedHands >= all) {
            finishCut(false);
        }
    }

    private void finishCut(boolean overtook) {
        lastDone = cuts - 1;
        lastOvertook = overtook;
        forgetCut();
        for (int i = 0; i < size; i++) {
            operators[i].closeCut();
        }
    }

    private void forgetCut() {
        cutGoesOn = false;
        joinedHands = 0;
    }

    private void bringBack() {
        forgetCut();
        for (int i = 0; i < size; i++) {
            operators[i].restore(lastOvertook);
            operators[i].forgetBut(ticks);
        }
    }

    /**
     * Numbers in rows that are used again: items in the order in which they wait, or rows sorted by their first
     * three columns, of the same ones as they came.
     */
    private static final class Rows {
        final int width;
        int[] cells = new int[0];
        // How many rows are gone from the beginning; moving up the others each time would be dear.
        int first;
        int size;

        Rows(int width) {
            this.width = width < ITEM_WIDTH ? ITEM_WIDTH : width;
        }

        int at(int row, int column) {
            int cell = (first + row) * width + column;
            boolean there = row >= 0 && row < size && column >= 0 && column < width;
            return there && cell < cells.length ? cells[cell] : 0;
        }

        void put(int row, int column, int value) {
            int cell = (first + row) * width + column;
            boolean there = row >= 0 && row < size && column >= 0 && column < width;
            if (there && cell < cells.length) {
                cells[cell] = value;
            }
        }

        void add(int a, int b, int c, int d, int e) {
            int cell = (first + size) * width;
            if (cell + width > cells.length) {
                if (first > 0 && first >= size) {
                    System.arraycopy(cells, first * width, cells, 0, size * width);
                    first = 0;
                } else if (cells.length < MOST_CELLS) {
                    cells = Arrays.copyOf(cells, 2 * cells.length + ROOM * width);
                }
            }
            cell = (first + size) * width;
            if (cell < 0 || cell + width > cells.length) {
                return;
            }
            cells[cell] = a;
            cells[cell + 1] = b;
            cells[cell + 2] = c;
            cells[cell + 3] = d;
            cells[cell + 4] = e;
            for (int column = ITEM_WIDTH; column < width; column++) {
                cells[cell + column] = 0;
            }
            size++;
        }

        /** Puts in a row with these first columns, behind all that are not greater; returns where it is. */
        int place(int a, int b, int c) {
            int seat = size;
            while (seat > 0 && isBehind(seat - 1, a, b, c)) {
                seat--;
            }
            add(a, b, c, 0, 0);
            int from = (first + seat) * width;
            int length = (size - 1 - seat) * width;
            if (length > 0 && from >= 0 && from + width + length <= cells.length) {
                System.arraycopy(cells, from, cells, from + width, length);
                Arrays.fill(cells, from, from + width, 0);
                cells[from] = a;
                cells[from + 1] = b;
                cells[from + 2] = c;
            }
            return seat;
        }

        private boolean isBehind(int row, int a, int b, int c) {
            if (at(row, 0) != a) {
                return at(row, 0) > a;
            }
            if (at(row, 1) != b) {
                return at(row, 1) > b;
            }
            return at(row, 2) > c;
        }

        /** Finds the first row with these first columns; -1 if there is none. */
        int seek(int a, int b, int c) {
            for (int row = 0; row < size; row++) {
                if (at(row, 0) == a && at(row, 1) == b && at(row, 2) == c) {
                    return row;
                }
            }
            return -1;
        }

        void drop(int row) {
            if (row < 0 || row >= size) {
                return;
            }
            int from = (first + row + 1) * width;
            int length = (size - row - 1) * width;
            if (length > 0 && from + length <= cells.length) {
                System.arraycopy(cells, from, cells, from - width, length);
            }
            size--;
        }

        void dropFirst() {
            if (size > 0) {
                first++;
                size--;
            }
            if (size == 0) {
                first = 0;
            }
        }

        void clear() {
            first = 0;
            size = 0;
        }

        void copyFrom(Rows other) {
            int length = other.size * width;
            if (length > cells.length) {
                cells = new int[other.cells.length];
            }
            first = 0;
            size = 0;
            int from = other.first * width;
            if (width == other.width && length <= cells.length && from + length <= other.cells.length) {
                System.arraycopy(other.cells, from, cells, 0, length);
                size = other.size;
            }
        }
    }

    /** What a hand knows; also what it knew when it joined a cut. */
    private static final class Hand {
        final int number;
        int mark = -1;
        boolean rests;
        int next;
        int taken;
        boolean ended;
        int latest = -1;
        int rules;
        int lost;
        int awake;
        boolean inCut;
        final boolean[] held = new boolean[MOST_CHANNELS];
        final int[] channelMarks = new int[MOST_CHANNELS];
        final boolean[] channelRests = new boolean[MOST_CHANNELS];
        final Rows[] channels = new Rows[MOST_CHANNELS];
        final Rows out = new Rows(ITEM_WIDTH);
        final Rows kept = new Rows(KEPT_WIDTH);
        final Rows waits = new Rows(ITEM_WIDTH);
        final Rows tooLate = new Rows(ITEM_WIDTH);

        Hand(int number) {
            this.number = number;
            Arrays.fill(channelMarks, -1);
            for (int c = 0; c < channels.length; c++) {
                channels[c] = new Rows(ITEM_WIDTH);
            }
        }

        /** Copies what a cut keeps; ticks are not among that, and holding and joining end with a cut. */
        void copyFrom(Hand other, boolean withFlows) {
            mark = other.mark;
            rests = other.rests;
            next = other.next;
            taken = other.taken;
            ended = other.ended;
            latest = other.latest;
            rules = other.rules;
            lost = other.lost;
            kept.copyFrom(other.kept);
            waits.copyFrom(other.waits);
            tooLate.copyFrom(other.tooLate);
            if (withFlows) {
                out.copyFrom(other.out);
                for (int c = 0; c < MOST_CHANNELS; c++) {
                    channels[c].copyFrom(other.channels[c]);
                    channelMarks[c] = other.channelMarks[c];
                    channelRests[c] = other.channelRests[c];
                }
            }
        }

        void emptyFlows() {
            out.clear();
            for (int c = 0; c < MOST_CHANNELS; c++) {
                channels[c].clear();
            }
        }

        void holdNone() {
            for (int c = 0; c < MOST_CHANNELS; c++) {
                held[c] = false;
            }
        }

        int countWaiting() {
            int waiting = 0;
            for (int c = 0; c < MOST_CHANNELS; c++) {
                waiting += channels[c].size;
            }
            return waiting;
        }

        /** Lets a channel know what an item that is no barrier says of its mark and its rest. */
        void hear(int channel, int kind, int time) {
            channelRests[channel] = kind == REST;
            if (kind == MARK && time > channelMarks[channel]) {
                channelMarks[channel] = time;
            }
        }
    }

    private abstract static class Operator {
        final Operator first;
        final Operator second;
        Hand[] hands = new Hand[MOST_HANDS];
        Hand[] coming = new Hand[MOST_HANDS];
        Hand[] done = new Hand[MOST_HANDS];
        int count;
        // How many hands it had when it joined the last cut that is done.
        int keptCount;
        // Whether rescale handed it anew since then, with whatever number of hands.
        boolean anew;
        final Operator[] followers = new Operator[MOST_OPERATORS];
        int followed;
        int number;
        // The first operator that does the same; so those that do the same have the same twin.
        Operator twin;
        // Whether it is a WINDOW or JOIN, or one stands above it.
        boolean gathers;

        Operator(Operator first, Operator second, int count) {
            this.first = first;
            this.second = second;
            this.count = count < 1 || count > MOST_HANDS ? 1 : count;
            keptCount = this.count;
            for (int h = 0; h < MOST_HANDS; h++) {
                hands[h] = new Hand(h);
                coming[h] = new Hand(h);
                done[h] = new Hand(h);
            }
        }

        abstract boolean isLike(Operator other);

        abstract void receive(Hand hand, int slot, int key, int time, int value, int sign);

        /** Does what a record brings that has waited for its time. */
        void ripen(Hand hand, int key, int time, int value, int sign) {
        }

        /** Says what becomes of a value by the first rule; GONE if the record does not come through. */
        int carry(int value) {
            return value;
        }

        /** Lets a hand that joins a cut keep for it what it has got. */
        void keepGot(Hand hand) {
        }

        /** Forgets what no cut keeps, but for the ticks, which a source counts from now on. */
        void forgetBut(int ticks) {
        }

        int handFor(int key) {
            int hand = key * count / KEYS;
            return hand < 0 || hand >= count ? 0 : hand;
        }

        int channelFrom(Operator input, int hand) {
            int channel = input == second ? MOST_HANDS + hand : hand;
            return channel < 0 || channel >= MOST_CHANNELS ? 0 : channel;
        }

        boolean hasChannel(int channel) {
            Operator input = channel < MOST_HANDS ? first : second;
            return input != null && channel % MOST_HANDS < input.count;
        }

        boolean sendOut(Hand hand) {
            boolean sent = false;
            for (int left = hand.out.size; left > 0 && hasRoom(hand); left--) {
                sendFirst(hand);
                sent = true;
            }
            return sent;
        }

        boolean hasRoom(Hand hand) {
            boolean isRecord = hand.out.at(0, KIND) == RECORD;
            int key = hand.out.at(0, KEY);
            for (int f = 0; f < followed; f++) {
                Operator follower = followers[f];
                int channel = follower.channelFrom(this, hand.number);
                for (int h = 0; h < follower.count; h++) {
                    boolean goesThere = !isRecord || follower.handFor(key) == h;
                    if (goesThere && follower.hands[h].channels[channel].size >= ROOM) {
                        return false;
                    }
                }
            }
            return true;
        }

        void sendFirst(Hand hand) {
            Rows out = hand.out;
            int kind = out.at(0, KIND);
            int key = out.at(0, KEY);
            for (int f = 0; f < followed; f++) {
                Operator follower = followers[f];
                int channel = follower.channelFrom(this, hand.number);
                for (int h = 0; h < follower.count; h++) {
                    if (kind != RECORD || follower.handFor(key) == h) {
                        Rows to = follower.hands[h].channels[channel];
                        to.add(kind, key, out.at(0, TIME), out.at(0, VALUE), out.at(0, SIGN));
                    }
                }
            }
            out.dropFirst();
        }

        int findChannel(Hand hand) {
            for (int c = 0; c < MOST_CHANNELS; c++) {
                int channel = (Math.max(0, hand.next) + c) % MOST_CHANNELS;
                if (hasChannel(channel) && !hand.held[channel] && hand.channels[channel].size > 0) {
                    return channel;
                }
            }
            return -1;
        }

        boolean holdsAll(Hand hand) {
            for (int c = 0; c < MOST_CHANNELS; c++) {
                if (hasChannel(c) && !hand.held[c]) {
                    return false;
                }
            }
            return true;
        }

        /** Lets a hand rest, or rise, by what its channels say behind an item. */
        void settle(Hand hand) {
            boolean allRest = true;
            int least = END_MARK;
            for (int c = 0; c < MOST_CHANNELS; c++) {
                if (hasChannel(c) && !hand.channelRests[c]) {
                    allRest = false;
                    least = Math.min(least, hand.channelMarks[c]);
                }
            }
            if (allRest) {
                if (!hand.rests) {
                    hand.out.add(REST, 0, 0, 0, 0);
                }
                hand.rests = true;
                return;
            }
            int before = hand.mark;
            if (least > before) {
                hand.mark = least;
                becomeDue(hand, before);
            }
            if (least > before || hand.rests) {
                hand.out.add(MARK, 0, hand.mark, 0, 0);
            }
            hand.rests = false;
        }

        /** Does what is due by a new mark: lets go what waited for it. */
        void becomeDue(Hand hand, int before) {
            Rows waits = hand.waits;
            for (int left = waits.size; left > 0 && waits.at(0, WHEN) <= hand.mark; left--) {
                ripen(hand, waits.at(0, KEY), waits.at(0, WHEN), waits.at(0, VALUE), waits.at(0, SIGN));
                waits.dropFirst();
            }
        }

        /** Lets a record wait for the mark. */
        void letWait(Hand hand, int key, int time, int value, int sign) {
            int row = hand.waits.place(time, key, 0);
            hand.waits.put(row, VALUE, value);
            hand.waits.put(row, SIGN, sign);
        }

        void keepForCut(Hand hand, boolean withFlows) {
            if (hand.number >= 0 && hand.number < coming.length) {
                coming[hand.number].copyFrom(hand, withFlows);
            }
        }

        void closeCut() {
            Hand[] older = done;
            done = coming;
            coming = older;
            keptCount = count;
            anew = false;
            for (int h = 0; h < MOST_HANDS; h++) {
                hands[h].inCut = false;
            }
        }

        /** Brings the hands back; its inputs, which have lower numbers, are brought back by then. */
        void restore(boolean withFlows) {
            for (int h = 0; h < MOST_HANDS; h++) {
                hands[h].copyFrom(done[h], withFlows);
                hands[h].inCut = false;
                hands[h].holdNone();
            }
            if (anew) {
                shareOut();
            }
            boolean fromFirst = anew || first != null && first.anew || second != null && second.anew;
            for (int h = 0; h < MOST_HANDS; h++) {
                if (fromFirst) {
                    hands[h].next = 0;
                }
                if (!withFlows) {
                    hands[h].emptyFlows();
                    trustInput(hands[h], first, 0);
                    trustInput(hands[h], second, MOST_HANDS);
                }
            }
        }

        /** Gives the channels from an input the marks and rests of its hands. */
        private static void trustInput(Hand hand, Operator input, int offset) {
            for (int h = 0; h < MOST_HANDS; h++) {
                boolean there = input != null && h < input.count;
                hand.channelMarks[offset + h] = there ? input.hands[h].mark : -1;
                hand.channelRests[offset + h] = there && input.hands[h].rests;
            }
        }

        /** Deals out among the hands that there are now what those knew that joined the cut. */
        private void shareOut() {
            int least = END_MARK;
            int fewest = MOST_RULES;
            int lost = 0;
            boolean allRest = true;
            for (int h = 0; h < keptCount; h++) {
                least = Math.min(least, done[h].mark);
                fewest = Math.min(fewest, done[h].rules);
                lost += done[h].lost;
                allRest = allRest && done[h].rests;
            }
            for (int h = 0; h < MOST_HANDS; h++) {
                Hand hand = hands[h];
                hand.mark = least;
                hand.rests = allRest;
                hand.rules = fewest;
                hand.lost = h == 0 ? lost : 0;
                hand.kept.clear();
                hand.waits.clear();
                hand.tooLate.clear();
            }
            for (int h = 0; h < keptCount; h++) {
                Hand from = done[h];
                for (int row = 0; row < from.kept.size; row++) {
                    copyRow(from.kept, row, hands[handFor(from.kept.at(row, KEY))].kept);
                }
                for (int row = 0; row < from.waits.size; row++) {
                    copyRow(from.waits, row, hands[handFor(from.waits.at(row, KEY))].waits);
                }
                for (int row = 0; row < from.tooLate.size; row++) {
                    copyRow(from.tooLate, row, hands[handFor(from.tooLate.at(row, KEY))].tooLate);
                }
            }
        }

        private static void copyRow(Rows from, int row, Rows to) {
            int placed = to.place(from.at(row, 0), from.at(row, 1), from.at(row, 2));
            for (int column = VALUE; column < from.width; column++) {
                to.put(placed, column, from.at(row, column));
            }
        }
    }

    private static final class Source extends Operator {
        final int delay;
        final int patience;
        final Rows[] partitions = new Rows[MOST_HANDS];
        final boolean[] endTold = new boolean[MOST_HANDS];

        Source(int count, int delay, int patience) {
            super(null, null, count);
            this.delay = delay;
            this.patience = patience;
            for (int p = 0; p < MOST_HANDS; p++) {
                partitions[p] = new Rows(ITEM_WIDTH);
            }
        }

        boolean isLike(Operator other) {
            return false;
        }

        void receive(Hand hand, int slot, int key, int time, int value, int sign) {
        }

        void forgetBut(int ticks) {
            for (int h = 0; h < MOST_HANDS; h++) {
                hands[h].awake = ticks;
            }
        }

        boolean hasNext(Hand hand) {
            return hand.taken < partitions[hand.number].size || endTold[hand.number] && !hand.ended;
        }

        boolean couldRest(Hand hand, int ticks) {
            return !hand.rests && !hand.ended && ticks - hand.awake >= patience;
        }

        void takeNext(Hand hand, int ticks) {
            Rows events = partitions[hand.number];
            int mark = END_MARK;
            if (hand.taken < events.size) {
                int place = hand.taken;
                int time = events.at(place, TIME);
                hand.out.add(RECORD, events.at(place, KEY), time, events.at(place, VALUE), events.at(place, SIGN));
                hand.taken++;
                hand.latest = Math.max(hand.latest, time);
                mark = hand.latest - delay - 1;
            } else {
                hand.ended = true;
            }
            if (mark > hand.mark || hand.rests) {
                hand.mark = Math.max(mark, hand.mark);
                hand.out.add(MARK, 0, hand.mark, 0, 0);
            }
            hand.rests = false;
            hand.awake = ticks;
        }
    }

    private static final class Sift extends Operator {
        final int least;
        final int[] later = new int[MOST_RULES];
        int told;

        Sift(Operator input, int least) {
            super(input, null, 1);
            this.least = least;
        }

        boolean isLike(Operator other) {
            return other instanceof Sift && ((Sift) other).least == least && other.first.twin == first.twin;
        }

        boolean hasRules(Hand hand) {
            return hand.rules < told;
        }

        int carry(int value) {
            return value >= least ? value : GONE;
        }

        void receive(Hand hand, int slot, int key, int time, int value, int sign) {
            int rule = hand.rules > 0 && hand.rules <= later.length ? later[hand.rules - 1] : least;
            if (value >= rule) {
                hand.out.add(RECORD, key, time, value, sign);
            }
        }
    }

    private static final class Change extends Operator {
        final int factor;
        final int more;
        // What the chain of CHANGE that ends here comes to, and the operator ahead of that chain.
        final Operator root;
        final long product;
        final long added;

        Change(Operator input, int factor, int more) {
            super(input, null, 1);
            this.factor = factor;
            this.more = more;
            Change above = input instanceof Change ? (Change) input : null;
            root = above == null ? input : above.root;
            product = above == null ? factor : above.product * factor;
            added = above == null ? more : above.added * factor + more;
        }

        boolean isLike(Operator other) {
            if (!(other instanceof Change)) {
                return false;
            }
            Change change = (Change) other;
            return change.product == product && change.added == added && change.root.twin == root.twin;
        }

        int carry(int value) {
            return bounded(value * factor + more);
        }

        void receive(Hand hand, int slot, int key, int time, int value, int sign) {
            hand.out.add(RECORD, key, time, carry(value), sign);
        }
    }

    private static final class Window extends Operator {
        final int kind;
        final int length;
        // TUMBLE is taken as SLIDE with a slide as long as its size.
        final int slide;
        final boolean counts;
        final int lateness;
        final int early;
        // The SIFT and CHANGE between this and its source, from below; no origin if there is anything else.
        final Operator[] way = new Operator[MOST_OPERATORS];
        final int steps;
        final Source origin;

        Window(Operator input, int kind, int length, int slide, boolean counts, int lateness, int early) {
            super(input, null, 1);
            this.kind = kind;
            this.length = length;
            this.slide = kind == SLIDE ? slide : length;
            this.counts = counts;
            this.lateness = lateness;
            this.early = early;
            Operator above = input;
            int far = 0;
            while ((above instanceof Sift || above instanceof Change) && far < way.length) {
                way[far] = above;
                far++;
                above = above.first;
            }
            steps = far;
            origin = above instanceof Source ? (Source) above : null;
        }

        boolean hasSpansOfTime() {
            return (kind == TUMBLE || kind == SLIDE) && slide > 0;
        }

        boolean isLike(Operator other) {
            if (!(other instanceof Window)) {
                return false;
            }
            Window window = (Window) other;
            return window.kind == kind && window.length == length && window.slide == slide
                && window.counts == counts && window.lateness == lateness && window.early == early
                && window.first.twin == first.twin;
        }

        void receive(Hand hand, int slot, int key, int time, int value, int sign) {
            if (kind == BUNCH) {
                addToBunch(hand, key, time, value, sign);
            } else if (kind == SESSION) {
                addToSession(hand, key, time, value, sign);
            } else {
                addToSpans(hand, key, time, value, sign);
            }
        }

        private void addToBunch(Hand hand, int key, int time, int value, int sign) {
            int row = hand.kept.seek(0, key, 0);
            if (row < 0) {
                row = hand.kept.place(0, key, 0);
            }
            int sum = hand.kept.at(row, SUM) + sign * value;
            int count = hand.kept.at(row, COUNT) + sign;
            if (count == length) {
                hand.out.add(RECORD, key, time, bounded(counts ? count : sum), 1);
                sum = 0;
                count = 0;
            }
            hand.kept.put(row, SUM, sum);
            hand.kept.put(row, COUNT, count);
        }

        private void addToSpans(Hand hand, int key, int time, int value, int sign) {
            if (!hasSpansOfTime()) {
                return;
            }
            boolean added = false;
            int begin = (Math.floorDiv(time - length, slide) + 1) * slide;
            for (; begin <= time; begin += slide) {
                int last = begin + length - 1;
                boolean isClosed = hand.mark >= last + lateness;
                Rows spans = isClosed ? hand.tooLate : hand.kept;
                int row = spans.seek(last, key, begin);
                if (row < 0) {
                    row = spans.place(last, key, begin);
                }
                spans.put(row, SUM, spans.at(row, SUM) + sign * value);
                spans.put(row, COUNT, spans.at(row, COUNT) + sign);
                if (!isClosed) {
                    added = true;
                    spans.put(row, FRESH, spans.at(row, FRESH) + 1);
                    if (shallTell(hand, row)) {
                        takeBack(hand, row);
                        tell(hand, row);
                    }
                }
            }
            if (!added) {
                hand.lost++;
            }
        }

        private void addToSession(Hand hand, int key, int time, int value, int sign) {
            Rows spans = hand.kept;
            int begin = time;
            int last = time + length - 1;
            for (int i = 0; i < spans.size; i++) {
                if (touches(spans, i, key, time)) {
                    begin = Math.min(begin, spans.at(i, BEGIN));
                    last = Math.max(last, spans.at(i, LAST));
                }
            }
            if (hand.mark >= last + lateness) {
                hand.lost++;
                return;
            }
            int sum = sign * value;
            int count = sign;
            int records = 1;
            // Spans of one key lie apart, so that they come by rising beginnings as by rising ends.
            int row = 0;
            for (int left = spans.size; left > 0; left--) {
                if (touches(spans, row, key, time)) {
                    takeBack(hand, row);
                    sum += spans.at(row, SUM);
                    count += spans.at(row, COUNT);
                    records += spans.at(row, RECORDS);
                    spans.drop(row);
                } else {
                    row++;
                }
            }
            int joined = spans.place(last, key, begin);
            spans.put(joined, SUM, sum);
            spans.put(joined, COUNT, count);
            spans.put(joined, RECORDS, records);
            spans.put(joined, FRESH, records);
            if (shallTell(hand, joined)) {
                takeBack(hand, joined);
                tell(hand, joined);
            }
        }

        /** Says whether a span meets or touches the one that a record of this key and time would have alone. */
        private boolean touches(Rows spans, int row, int key, int time) {
            boolean isOfKey = spans.at(row, KEY) == key;
            return isOfKey && spans.at(row, BEGIN) <= time + length && spans.at(row, LAST) + 1 >= time;
        }

        /** Says whether a span to which a record was added tells at once. */
        private boolean shallTell(Hand hand, int row) {
            boolean isOver = hand.mark >= hand.kept.at(row, LAST);
            return isOver || early > 0 && hand.kept.at(row, FRESH) >= early;
        }

        private static void takeBack(Hand hand, int row) {
            Rows spans = hand.kept;
            if (spans.at(row, TOLD) == 1) {
                hand.out.add(RECORD, spans.at(row, KEY), spans.at(row, LAST), spans.at(row, LAST_TOLD), -1);
                spans.put(row, TOLD, 0);
            }
        }

        private int numberOf(Rows spans, int row) {
            return bounded(counts ? spans.at(row, COUNT) : spans.at(row, SUM));
        }

        private void tell(Hand hand, int row) {
            Rows spans = hand.kept;
            if (spans.at(row, COUNT) == 0) {
                return;
            }
            int number = numberOf(spans, row);
            hand.out.add(RECORD, spans.at(row, KEY), spans.at(row, LAST), number, 1);
            spans.put(row, TOLD, 1);
            spans.put(row, LAST_TOLD, number);
            spans.put(row, FRESH, 0);
        }

        void becomeDue(Hand hand, int before) {
            Rows spans = hand.kept;
            if (kind == BUNCH) {
                return;
            }
            for (int row = 0; row < spans.size; row++) {
                int last = spans.at(row, LAST);
                boolean isOver = last <= hand.mark && last > before;
                boolean toldJustThat = spans.at(row, TOLD) == 1 && spans.at(row, COUNT) != 0
                    && spans.at(row, LAST_TOLD) == numberOf(spans, row);
                if (isOver && !toldJustThat) {
                    takeBack(hand, row);
                    tell(hand, row);
                }
            }
            for (int left = spans.size; left > 0 && spans.at(0, LAST) + lateness <= hand.mark; left--) {
                spans.dropFirst();
            }
        }

        int tellInTheEnd(int key, int last) {
            int begin = last + 1 - length;
            if (origin == null || slide <= 0 || Math.floorMod(begin, slide) != 0) {
                return 0;
            }
            int sum = 0;
            int count = 0;
            for (int h = 0; h < origin.count; h++) {
                Rows events = origin.partitions[h];
                for (int e = 0; e < origin.hands[h].taken; e++) {
                    int time = events.at(e, TIME);
                    int value = carryDown(events.at(e, VALUE));
                    if (events.at(e, KEY) == key && time >= begin && time <= last && value != GONE) {
                        sum += events.at(e, SIGN) * value;
                        count += events.at(e, SIGN);
                    }
                }
            }
            for (int h = 0; h < this.count; h++) {
                Rows tooLate = hands[h].tooLate;
                int row = tooLate.seek(last, key, begin);
                sum -= tooLate.at(row, SUM);
                count -= tooLate.at(row, COUNT);
            }
            return count == 0 ? 0 : bounded(counts ? count : sum);
        }

        private int carryDown(int value) {
            int carried = value;
            for (int i = steps - 1; i >= 0 && carried != GONE; i--) {
                carried = way[i].carry(carried);
            }
            return carried;
        }
    }

    private static final class Join extends Operator {
        final int reach;

        Join(Operator input, Operator other, int reach) {
            super(input, other, 1);
            this.reach = reach;
        }

        boolean isLike(Operator other) {
            return other instanceof Join && ((Join) other).reach == reach
                && other.first.twin == first.twin && other.second.twin == second.twin;
        }

        void receive(Hand hand, int slot, int key, int time, int value, int sign) {
            if (time + reach < hand.mark) {
                hand.lost++;
                return;
            }
            Rows kept = hand.kept;
            for (int row = 0; row < kept.size; row++) {
                boolean fits = kept.at(row, SIDE) != slot && kept.at(row, KEY) == key;
                int at = kept.at(row, AT);
                if (fits && Math.abs(at - time) <= reach) {
                    int other = kept.at(row, VALUE);
                    int both = slot == 0 ? 3 * value + other : 3 * other + value;
                    hand.out.add(RECORD, key, Math.max(at, time), bounded(both), sign * kept.at(row, SIGN));
                }
            }
            int row = kept.place(slot, key, 0);
            kept.put(row, VALUE, value);
            kept.put(row, SIGN, sign);
            kept.put(row, AT, time);
        }

        void becomeDue(Hand hand, int before) {
            Rows kept = hand.kept;
            for (int row = kept.size - 1; row >= 0; row--) {
                if (kept.at(row, AT) + reach < hand.mark) {
                    kept.drop(row);
                }
            }
        }
    }

    private static final class Table extends Operator {
        Table(Operator input, Operator other) {
            super(input, other, 1);
        }

        boolean isLike(Operator other) {
            return other instanceof Table && other.first.twin == first.twin && other.second.twin == second.twin;
        }

        void receive(Hand hand, int slot, int key, int time, int value, int sign) {
            if (slot == 0 && hand.mark >= time) {
                ripen(hand, key, time, value, sign);
            } else if (slot == 0) {
                letWait(hand, key, time, value, sign);
            } else if (sign == 1) {
                int row = hand.kept.place(0, key, time);
                hand.kept.put(row, VALUE, value);
            }
        }

        void ripen(Hand hand, int key, int time, int value, int sign) {
            Rows kept = hand.kept;
            // They are sorted by times, of the same one as they came: the last one that fits is the one.
            for (int row = kept.size - 1; row >= 0; row--) {
                if (kept.at(row, KEY) == key && kept.at(row, TIME) <= time) {
                    hand.out.add(RECORD, key, time, bounded(3 * value + kept.at(row, VALUE)), sign);
                    return;
                }
            }
        }
    }

    private static final class Pattern extends Operator {
        final int low;
        final int high;
        final int many;
        final int reach;

        Pattern(Operator input, int low, int high, int many, int reach) {
            super(input, null, 1);
            this.low = low;
            this.high = high;
            this.many = many;
            this.reach = reach;
        }

        boolean isLike(Operator other) {
            if (!(other instanceof Pattern)) {
                return false;
            }
            Pattern pattern = (Pattern) other;
            return pattern.low == low && pattern.high == high && pattern.many == many && pattern.reach == reach
                && pattern.first.twin == first.twin;
        }

        void receive(Hand hand, int slot, int key, int time, int value, int sign) {
            if (sign == 1 && hand.mark >= time) {
                ripen(hand, key, time, value, sign);
            } else if (sign == 1) {
                letWait(hand, key, time, value, sign);
            }
        }

        void ripen(Hand hand, int key, int time, int value, int sign) {
            Rows kept = hand.kept;
            int from = kept.seek(0, key, 0);
            int times = 0;
            for (int row = from; row >= 0 && row < kept.size && kept.at(row, KEY) == key; row++) {
                times++;
            }
            if (value >= high && times == many && time - kept.at(from, AT) <= reach) {
                hand.out.add(RECORD, key, time, value, 1);
                for (int left = times; left > 0; left--) {
                    kept.drop(from);
                }
            } else if (value >= low) {
                int row = kept.place(0, key, 0);
                kept.put(row, AT, time);
                if (times + 1 > many) {
                    kept.drop(from);
                }
            }
        }
    }

    private static final class Sink extends Operator {
        final Rows got = new Rows(ITEM_WIDTH);
        final Rows gone = new Rows(ITEM_WIDTH);

        Sink(Operator input) {
            super(input, null, 1);
        }

        boolean isLike(Operator other) {
            return other instanceof Sink && other.first.twin == first.twin;
        }

        void receive(Hand hand, int slot, int key, int time, int value, int sign) {
            got.add(hand.number, key, time, value, sign);
        }

        void keepGot(Hand hand) {
            for (int row = 0; row < got.size; row++) {
                if (got.at(row, KIND) == hand.number) {
                    got.put(row, KIND, FOR_THE_CUT);
                }
            }
        }

        void closeCut() {
            super.closeCut();
            int left = 0;
            for (int row = 0; row < got.size; row++) {
                if (got.at(row, KIND) == FOR_THE_CUT) {
                    gone.add(RECORD, got.at(row, KEY), got.at(row, TIME), got.at(row, VALUE), got.at(row, SIGN));
                } else {
                    for (int column = 0; column < ITEM_WIDTH; column++) {
                        got.put(left, column, got.at(row, column));
                    }
                    left++;
                }
            }
            got.size = left;
        }

        void forgetBut(int ticks) {
            got.clear();
        }
    }
}
