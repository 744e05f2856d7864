import java.util.ArrayList;
import java.util.Comparator;
import java.util.List;

/**
 * The document told a second time, in the simplest way that comes to mind and without a thought of speed:
 * states lie by operators and keys, and what a cut keeps is a deep copy. RandomRunsTest compares the class with it.
 */
final class Model {
    static final int RECORD = 6, MARK = 7, REST = 8, BARRIER = 9;

    enum Kind { SOURCE, SIFT, CHANGE, WINDOW, JOIN, TABLE, PATTERN, SINK }

    record Item(int kind, int key, int time, int value, int sign) { }

    record Got(int hand, boolean kept, int key, int time, int value, int sign) { }

    static final class Channel {
        int slot, from, to, mark = -1;
        boolean rests, held;
        List<Item> items = new ArrayList<>();

        Channel copy() {
            Channel c = new Channel();
            c.slot = slot;
            c.from = from;
            c.to = to;
            c.mark = mark;
            c.rests = rests;
            c.items.addAll(items);
            return c;
        }
    }

    static final class Span {
        int begin, end, sum, count, all, fresh;
        Integer told;

        Span copy() {
            Span s = new Span();
            s.begin = begin;
            s.end = end;
            s.sum = sum;
            s.count = count;
            s.all = all;
            s.fresh = fresh;
            s.told = told;
            return s;
        }
    }

    /** What an operator knows of one key. */
    static final class Known {
        List<Span> spans = new ArrayList<>();
        int sum, count;
        List<Item> first = new ArrayList<>(), second = new ArrayList<>(), waits = new ArrayList<>();
        List<Integer> times = new ArrayList<>();
        List<int[]> late = new ArrayList<>();

        Known copy() {
            Known k = new Known();
            for (Span s : spans) k.spans.add(s.copy());
            k.sum = sum;
            k.count = count;
            k.first.addAll(first);
            k.second.addAll(second);
            k.waits.addAll(waits);
            k.times.addAll(times);
            for (int[] l : late) k.late.add(l.clone());
            return k;
        }
    }

    static final class Hand {
        int mark = -1, taken, greatest = -1, rules, lost, since;
        // The channel from which it took last, as slot and hand of the input; null: look at the first one.
        int[] last;
        boolean rests, ended, joined;
        List<Item> out = new ArrayList<>();

        Hand copy() {
            Hand h = new Hand();
            h.mark = mark;
            h.taken = taken;
            h.greatest = greatest;
            h.rules = rules;
            h.lost = lost;
            h.last = last;
            h.rests = rests;
            h.ended = ended;
            h.out.addAll(out);
            return h;
        }
    }

    static final class Op {
        Kind kind;
        int number;
        int[] n;
        Op first, second;
        List<Op> followers = new ArrayList<>();
        List<Hand> hands = new ArrayList<>();
        List<Channel> channels = new ArrayList<>();
        Known[] keys = new Known[16];
        List<List<Item>> events = new ArrayList<>();
        boolean[] endTold = new boolean[3];
        List<Integer> rules = new ArrayList<>();
        List<Got> got = new ArrayList<>();
        List<Got> given = new ArrayList<>();
        // What hands have kept for the cut that goes on, and for the last one that is done.
        Hand[] coming = new Hand[3], done = new Hand[3];
        Known[] comingKeys = new Known[16], doneKeys = new Known[16];
        List<Channel> doneChannels = new ArrayList<>();
        int doneHands;
        boolean anew;

        boolean belongs(int key, int hand) {
            return key * hands.size() / 16 == hand;
        }
    }

    final List<Op> ops = new ArrayList<>();
    boolean late, goesOn, overtook;
    int told, ticks, cuts, lastDone = -1;

    private static RuntimeException index() {
        return new IndexOutOfBoundsException();
    }

    private static void index(boolean fits) {
        if (!fits) throw index();
    }

    private static void range(boolean fits) {
        if (!fits) throw new IllegalArgumentException();
    }

    private static void state(boolean fits) {
        if (!fits) throw new IllegalStateException();
    }

    private static boolean in(int x, int a, int b) {
        return a <= x && x <= b;
    }

    private static int clamp(int v) {
        return Math.max(-1000000, Math.min(1000000, v));
    }

    private Op op(int number) {
        index(in(number, 0, ops.size() - 1));
        return ops.get(number);
    }

    private Op input(int number) {
        Op o = op(number);
        index(o.kind != Kind.SINK);
        return o;
    }

    private Op sinkOf(int number) {
        Op o = op(number);
        index(o.kind == Kind.SINK);
        return o;
    }

    private Op part(int number, int partition) {
        Op o = op(number);
        index(o.kind == Kind.SOURCE && in(partition, 0, o.hands.size() - 1));
        return o;
    }

    private Hand hand(int number, int hand) {
        Op o = op(number);
        index(in(hand, 0, o.hands.size() - 1));
        return o.hands.get(hand);
    }

    private static boolean gathers(Op o) {
        if (o == null) return false;
        return o.kind == Kind.WINDOW || o.kind == Kind.JOIN || gathers(o.first) || gathers(o.second);
    }

    private int add(Kind kind, Op first, Op second, int hands, int... numbers) {
        state(!late && ops.size() < 8);
        Op o = new Op();
        o.kind = kind;
        o.number = ops.size();
        o.n = numbers;
        o.first = first;
        o.second = second;
        for (int i = 0; i < 16; i++) {
            o.keys[i] = new Known();
            o.doneKeys[i] = new Known();
        }
        for (int h = 0; h < hands; h++) {
            o.hands.add(new Hand());
            o.events.add(new ArrayList<>());
            o.done[h] = new Hand();
        }
        o.doneHands = hands;
        if (first != null) first.followers.add(o);
        if (second != null) second.followers.add(o);
        ops.add(o);
        layChannels(o);
        return o.number;
    }

    private static void layChannels(Op o) {
        o.channels.clear();
        for (int slot = 0; slot < 2; slot++) {
            Op in = slot == 0 ? o.first : o.second;
            for (int f = 0; in != null && f < in.hands.size(); f++) {
                for (int t = 0; t < o.hands.size(); t++) {
                    Channel c = new Channel();
                    c.slot = slot;
                    c.from = f;
                    c.to = t;
                    c.mark = in.hands.get(f).mark;
                    c.rests = in.hands.get(f).rests;
                    o.channels.add(c);
                }
            }
        }
    }

    int source(int partitions, int delay, int patience) {
        range(in(partitions, 1, 3) && in(delay, 0, 100) && in(patience, 1, 100));
        return add(Kind.SOURCE, null, null, partitions, delay, patience);
    }

    int sift(int input, int least) {
        Op i = input(input);
        range(in(least, -9999, 9999));
        return add(Kind.SIFT, i, null, 1, least);
    }

    int change(int input, int factor, int more) {
        Op i = input(input);
        range(in(factor, -9, 9) && in(more, -9999, 9999));
        return add(Kind.CHANGE, i, null, 1, factor, more);
    }

    int window(int input, int kind, int size, int slide, boolean counts, int lateness, int early) {
        Op i = input(input);
        range(in(kind, 0, 3) && in(size, 1, 100));
        range(kind != 1 || 3 * slide >= size && slide <= size && slide > 0);
        range(in(lateness, 0, 100) && in(early, 0, 100) && !gathers(i));
        return add(Kind.WINDOW, i, null, 1, kind, size, kind == 1 ? slide : 0, counts ? 1 : 0, lateness, early);
    }

    int join(int input, int other, int reach) {
        Op i = input(input);
        Op j = input(other);
        range(i != j && in(reach, 0, 100) && !gathers(i) && !gathers(j));
        return add(Kind.JOIN, i, j, 1, reach);
    }

    int table(int input, int other) {
        Op i = input(input);
        Op j = input(other);
        range(i != j);
        return add(Kind.TABLE, i, j, 1);
    }

    int pattern(int input, int low, int high, int many, int reach) {
        Op i = input(input);
        range(in(low, -9999, 9999) && in(high, low, 9999) && in(many, 1, 5) && in(reach, 0, 1000));
        return add(Kind.PATTERN, i, null, 1, low, high, many, reach);
    }

    int sink(int input) {
        return add(Kind.SINK, input(input), null, 1);
    }

    int rescale(int operator, int hands) {
        Op o = op(operator);
        range(o.kind != Kind.SOURCE && in(hands, 1, 3));
        state(!overtook);
        int had = o.hands.size();
        o.anew = true;
        while (o.hands.size() > hands) o.hands.remove(o.hands.size() - 1);
        while (o.hands.size() < hands) o.hands.add(new Hand());
        crash();
        return had;
    }

    boolean isSame(int one, int other) {
        return same(op(one), op(other));
    }

    private static boolean same(Op a, Op b) {
        if (a == b) return true;
        if (a == null || b == null || a.kind != b.kind || a.kind == Kind.SOURCE) return false;
        if (a.kind == Kind.CHANGE) {
            long[] x = {1, 0};
            long[] y = {1, 0};
            return same(chain(a, x), chain(b, y)) && x[0] == y[0] && x[1] == y[1];
        }
        return java.util.Arrays.equals(a.n, b.n) && same(a.first, b.first) && same(a.second, b.second);
    }

    /** Puts a chain of CHANGE together from above; returns what stands above it. */
    private static Op chain(Op o, long[] sum) {
        if (o.kind != Kind.CHANGE) return o;
        Op above = chain(o.first, sum);
        sum[0] *= o.n[0];
        sum[1] = sum[1] * o.n[0] + o.n[1];
        return above;
    }

    int event(int source, int partition, int time, int key, int value) {
        Op o = part(source, partition);
        range(in(time, 0, 9999) && in(key, 0, 15) && in(value, -9999, 9999));
        state(!o.endTold[partition] && told < 60);
        late = true;
        told++;
        o.events.get(partition).add(new Item(RECORD, key, time, value, 1));
        return o.events.get(partition).size();
    }

    int correct(int source, int partition, int event, int value) {
        Op o = part(source, partition);
        List<Item> row = o.events.get(partition);
        index(in(event, 0, row.size() - 1));
        Item e = row.get(event);
        range(e.sign == 1 && in(value, -9999, 9999));
        state(!o.endTold[partition] && told <= 58);
        late = true;
        told += 2;
        row.add(new Item(RECORD, e.key, e.time, e.value, -1));
        row.add(new Item(RECORD, e.key, e.time, value, 1));
        return row.size();
    }

    void end(int source, int partition) {
        Op o = part(source, partition);
        state(!o.endTold[partition]);
        late = true;
        o.endTold[partition] = true;
    }

    int rule(int operator, int least) {
        Op o = op(operator);
        range(o.kind == Kind.SIFT && in(least, -9999, 9999));
        state(o.rules.size() < 20);
        late = true;
        o.rules.add(least);
        return o.rules.size();
    }

    int tick(int t) {
        range(in(t, 1, 1000));
        ticks += t;
        return ticks;
    }

    int step(int operator, int hand) {
        hand(operator, hand);
        late = true;
        return letStep(ops.get(operator), hand);
    }

    int run(int rounds) {
        range(in(rounds, 1, 50));
        late = true;
        int n = 0;
        for (int r = 0; r < rounds; r++) {
            for (Op o : ops) {
                for (int h = 0; h < o.hands.size(); h++) {
                    if (letStep(o, h) != 0) n++;
                }
            }
        }
        return n;
    }

    private List<Channel> targets(Op o, int hand, Item item) {
        List<Channel> list = new ArrayList<>();
        for (Op f : o.followers) {
            int slot = f.first == o ? 0 : 1;
            for (Channel c : f.channels) {
                if (c.slot != slot || c.from != hand) continue;
                if (item.kind == RECORD && !f.belongs(item.key, c.to)) continue;
                list.add(c);
            }
        }
        return list;
    }

    private boolean fits(Op o, int hand) {
        for (Channel c : targets(o, hand, o.hands.get(hand).out.get(0))) {
            if (c.items.size() >= 4) return false;
        }
        return true;
    }

    private int letStep(Op o, int number) {
        Hand h = o.hands.get(number);
        if (!h.out.isEmpty()) {
            int sent = 0;
            while (!h.out.isEmpty() && fits(o, number)) {
                Item item = h.out.remove(0);
                for (Channel c : targets(o, number, item)) c.items.add(item);
                sent++;
            }
            return sent > 0 ? 1 : 0;
        }
        if (o.kind == Kind.SOURCE) {
            if (goesOn && !h.joined) {
                joinAligned(o, number);
                return 2;
            }
            List<Item> events = o.events.get(number);
            if (h.taken < events.size()) {
                Item e = events.get(h.taken++);
                h.out.add(e);
                h.greatest = Math.max(h.greatest, e.time);
                rise(h, h.greatest - o.n[0] - 1);
                return 3;
            }
            if (o.endTold[number] && !h.ended) {
                h.ended = true;
                rise(h, 20000);
                return 3;
            }
            if (!h.rests && !h.ended && ticks - h.since >= o.n[1]) {
                h.rests = true;
                h.out.add(new Item(REST, 0, 0, 0, 0));
                return 4;
            }
            return 0;
        }
        if (o.kind == Kind.SIFT && h.rules < o.rules.size()) {
            h.rules = o.rules.size();
            return 5;
        }
        return take(o, number);
    }

    private void rise(Hand h, int mark) {
        boolean newMark = mark > h.mark;
        if (newMark) h.mark = mark;
        if (newMark || h.rests) h.out.add(new Item(MARK, 0, h.mark, 0, 0));
        h.rests = false;
        h.since = ticks;
    }

    private static List<Channel> channelsTo(Op o, int hand) {
        List<Channel> list = new ArrayList<>();
        for (Channel c : o.channels) if (c.to == hand) list.add(c);
        list.sort(Comparator.<Channel>comparingInt(c -> c.slot).thenComparingInt(c -> c.from));
        return list;
    }

    private Channel nextChannel(Op o, int number) {
        List<Channel> all = channelsTo(o, number);
        Hand h = o.hands.get(number);
        int start = 0;
        for (int i = 0; i < all.size(); i++) {
            if (h.last != null && all.get(i).slot == h.last[0] && all.get(i).from == h.last[1]) start = i + 1;
        }
        for (int i = 0; i < all.size(); i++) {
            Channel c = all.get((start + i) % all.size());
            if (!c.held && !c.items.isEmpty()) return c;
        }
        return null;
    }

    private int take(Op o, int number) {
        Hand h = o.hands.get(number);
        Channel c = nextChannel(o, number);
        if (c == null) return 0;
        Item item = c.items.remove(0);
        h.last = new int[] {c.slot, c.from};
        if (item.kind == BARRIER) {
            c.held = true;
            boolean all = true;
            for (Channel x : channelsTo(o, number)) all &= x.held;
            if (all) joinAligned(o, number);
            return BARRIER;
        }
        c.rests = item.kind == REST;
        if (item.kind == MARK) c.mark = Math.max(c.mark, item.time);
        if (item.kind == RECORD) bring(o, number, c.slot, item);
        boolean someone = false;
        int least = Integer.MAX_VALUE;
        for (Channel x : channelsTo(o, number)) {
            if (!x.rests) {
                someone = true;
                least = Math.min(least, x.mark);
            }
        }
        if (!someone) {
            if (!h.rests) h.out.add(new Item(REST, 0, 0, 0, 0));
            h.rests = true;
        } else {
            boolean tell = h.rests;
            if (least > h.mark) {
                int before = h.mark;
                h.mark = least;
                due(o, number, before);
                tell = true;
            }
            if (tell) h.out.add(new Item(MARK, 0, h.mark, 0, 0));
            h.rests = false;
        }
        return item.kind;
    }

    private void give(Hand h, int key, int time, int value, int sign) {
        h.out.add(new Item(RECORD, key, time, clamp(value), sign));
    }

    private void bring(Op o, int number, int slot, Item r) {
        Hand h = o.hands.get(number);
        Known k = o.keys[r.key];
        switch (o.kind) {
            case SIFT -> {
                int rule = h.rules == 0 ? o.n[0] : o.rules.get(h.rules - 1);
                if (r.value >= rule) give(h, r.key, r.time, r.value, r.sign);
            }
            case CHANGE -> give(h, r.key, r.time, r.value * o.n[0] + o.n[1], r.sign);
            case WINDOW -> bringWindow(o, h, k, r);
            case JOIN -> {
                if (r.time + o.n[0] < h.mark) {
                    h.lost++;
                    return;
                }
                for (Item x : slot == 0 ? k.second : k.first) {
                    if (Math.abs(x.time - r.time) > o.n[0]) continue;
                    int a = slot == 0 ? r.value : x.value;
                    int b = slot == 0 ? x.value : r.value;
                    give(h, r.key, Math.max(x.time, r.time), 3 * a + b, x.sign * r.sign);
                }
                (slot == 0 ? k.first : k.second).add(r);
            }
            case TABLE -> {
                if (slot == 1) k.second.add(r);
                else if (h.mark >= r.time) ripe(o, h, r);
                else k.waits.add(r);
            }
            case PATTERN -> {
                if (r.sign == -1) return;
                if (h.mark >= r.time) ripe(o, h, r);
                else k.waits.add(r);
            }
            case SINK -> o.got.add(new Got(number, false, r.key, r.time, r.value, r.sign));
            default -> throw new AssertionError();
        }
    }

    private void ripe(Op o, Hand h, Item r) {
        Known k = o.keys[r.key];
        if (o.kind == Kind.TABLE) {
            Item best = null;
            for (Item x : k.second) {
                if (x.sign == 1 && x.time <= r.time && (best == null || x.time >= best.time)) best = x;
            }
            if (best != null) give(h, r.key, r.time, 3 * r.value + best.value, r.sign);
            return;
        }
        int low = o.n[0];
        int high = o.n[1];
        int many = o.n[2];
        int reach = o.n[3];
        if (r.value >= high && k.times.size() == many && k.times.get(0) >= r.time - reach) {
            give(h, r.key, r.time, r.value, 1);
            k.times.clear();
        } else if (r.value >= low) {
            k.times.add(r.time);
            if (k.times.size() > many) k.times.remove(0);
        }
    }

    private int number(Op o, Span s) {
        return clamp(o.n[3] == 1 ? s.count : s.sum);
    }

    private void tellBack(Hand h, int key, Span s) {
        if (s.told != null) give(h, key, s.end - 1, s.told, -1);
        s.told = null;
    }

    private void tell(Op o, Hand h, int key, Span s) {
        if (s.count == 0) return;
        s.told = number(o, s);
        s.fresh = 0;
        give(h, key, s.end - 1, s.told, 1);
    }

    private void bringWindow(Op o, Hand h, Known k, Item r) {
        int kind = o.n[0];
        int size = o.n[1];
        int closing = o.n[4];
        if (kind == 3) {
            k.sum += r.sign * r.value;
            k.count += r.sign;
            if (k.count == size) {
                give(h, r.key, r.time, o.n[3] == 1 ? k.count : k.sum, 1);
                k.sum = 0;
                k.count = 0;
            }
            return;
        }
        if (kind == 2) {
            Span s = new Span();
            s.begin = r.time;
            s.end = r.time + size;
            List<Span> met = new ArrayList<>();
            for (Span x : k.spans) if (x.begin <= r.time + size && r.time <= x.end) met.add(x);
            met.sort(Comparator.comparingInt(x -> x.begin));
            for (Span x : met) {
                s.begin = Math.min(s.begin, x.begin);
                s.end = Math.max(s.end, x.end);
                s.sum += x.sum;
                s.count += x.count;
                s.all += x.all;
            }
            if (h.mark >= s.end - 1 + closing) {
                h.lost++;
                return;
            }
            s.fresh = s.all;
            for (Span x : met) {
                tellBack(h, r.key, x);
                k.spans.remove(x);
            }
            k.spans.add(s);
            addTo(o, h, s, r);
            return;
        }
        int slide = kind == 0 ? size : o.n[2];
        boolean added = false;
        for (int begin = -200 * slide; begin <= r.time; begin += slide) {
            if (r.time >= begin + size) continue;
            if (h.mark >= begin + size - 1 + closing) {
                k.late.add(new int[] {begin + size - 1, r.sign * r.value, r.sign});
                continue;
            }
            Span s = null;
            for (Span x : k.spans) if (x.begin == begin) s = x;
            if (s == null) {
                s = new Span();
                s.begin = begin;
                s.end = begin + size;
                k.spans.add(s);
            }
            addTo(o, h, s, r);
            added = true;
        }
        if (!added) h.lost++;
    }

    private void addTo(Op o, Hand h, Span s, Item r) {
        s.sum += r.sign * r.value;
        s.count += r.sign;
        s.all++;
        s.fresh++;
        if (h.mark >= s.end - 1 || o.n[5] > 0 && s.fresh >= o.n[5]) {
            tellBack(h, r.key, s);
            tell(o, h, r.key, s);
        }
    }

    private void due(Op o, int number, int before) {
        Hand h = o.hands.get(number);
        record Due(int key, Span span) { }
        List<Due> over = new ArrayList<>();
        List<Item> ripe = new ArrayList<>();
        for (int key = 0; key < 16; key++) {
            if (!o.belongs(key, number)) continue;
            Known k = o.keys[key];
            for (Span s : k.spans) if (s.end - 1 <= h.mark && s.end - 1 > before) over.add(new Due(key, s));
            for (Item w : k.waits) if (w.time <= h.mark) ripe.add(w);
            k.waits.removeIf(w -> w.time <= h.mark);
        }
        over.sort(Comparator.<Due>comparingInt(d -> d.span.end).thenComparingInt(d -> d.key)
            .thenComparingInt(d -> d.span.begin));
        for (Due d : over) {
            Span s = d.span;
            boolean tells = s.count != 0;
            if (s.told != null && tells && s.told == number(o, s)) continue;
            tellBack(h, d.key, s);
            tell(o, h, d.key, s);
        }
        ripe.sort(Comparator.<Item>comparingInt(Item::time).thenComparingInt(Item::key));
        for (Item r : ripe) ripe(o, h, r);
        for (int key = 0; key < 16; key++) {
            if (!o.belongs(key, number)) continue;
            Known k = o.keys[key];
            if (o.kind == Kind.WINDOW) k.spans.removeIf(s -> s.end - 1 + o.n[4] <= h.mark);
            if (o.kind == Kind.JOIN) {
                k.first.removeIf(r -> r.time + o.n[0] < h.mark);
                k.second.removeIf(r -> r.time + o.n[0] < h.mark);
            }
        }
    }

    private void keep(Op o, int number) {
        Hand h = o.hands.get(number);
        o.coming[number] = h.copy();
        for (int key = 0; key < 16; key++) {
            if (o.belongs(key, number)) o.comingKeys[key] = o.keys[key].copy();
        }
        for (int i = 0; i < o.got.size(); i++) {
            Got g = o.got.get(i);
            if (g.hand == number) o.got.set(i, new Got(number, true, g.key, g.time, g.value, g.sign));
        }
        h.joined = true;
    }

    private void joinAligned(Op o, int number) {
        keep(o, number);
        o.coming[number].out.clear();
        for (Channel c : channelsTo(o, number)) c.held = false;
        o.hands.get(number).out.add(new Item(BARRIER, 0, 0, 0, 0));
        boolean all = true;
        for (Op x : ops) for (Hand h : x.hands) all &= h.joined;
        if (all) finish(false);
    }

    private void finish(boolean overtakes) {
        goesOn = false;
        overtook = overtakes;
        lastDone = cuts - 1;
        for (Op o : ops) {
            for (int h = 0; h < o.hands.size(); h++) {
                o.done[h] = o.coming[h].copy();
                o.hands.get(h).joined = false;
            }
            o.doneHands = o.hands.size();
            o.anew = false;
            for (int key = 0; key < 16; key++) o.doneKeys[key] = o.comingKeys[key].copy();
            o.doneChannels.clear();
            if (overtakes) for (Channel c : o.channels) o.doneChannels.add(c.copy());
            for (Got g : o.got) if (g.kept) o.given.add(g);
            o.got.removeIf(g -> g.kept);
        }
    }

    int cut(boolean overtakes) {
        state(!ops.isEmpty() && !goesOn);
        late = true;
        cuts++;
        if (overtakes) {
            for (Op o : ops) for (int h = 0; h < o.hands.size(); h++) keep(o, h);
            finish(true);
        } else {
            goesOn = true;
        }
        return cuts - 1;
    }

    int crash() {
        goesOn = false;
        for (Op o : ops) {
            int count = o.hands.size();
            o.hands.clear();
            Hand merged = new Hand();
            merged.mark = 20000;
            merged.rests = true;
            merged.rules = 20;
            for (int h = 0; h < o.doneHands; h++) {
                merged.mark = Math.min(merged.mark, o.done[h].mark);
                merged.rests &= o.done[h].rests;
                merged.rules = Math.min(merged.rules, o.done[h].rules);
            }
            int lost = 0;
            for (int h = 0; h < o.doneHands; h++) lost += o.done[h].lost;
            for (int h = 0; h < count; h++) {
                Hand hand = o.anew ? merged.copy() : o.done[h].copy();
                if (o.anew && h == 0) hand.lost = lost;
                hand.since = ticks;
                o.hands.add(hand);
            }
            for (int key = 0; key < 16; key++) o.keys[key] = o.doneKeys[key].copy();
            if (overtook) {
                o.channels.clear();
                for (Channel c : o.doneChannels) o.channels.add(c.copy());
            } else {
                layChannels(o);
            }
            boolean inputAnew = o.first != null && o.first.anew || o.second != null && o.second.anew;
            if (inputAnew) for (Hand h : o.hands) h.last = null;
            o.got.clear();
        }
        return lastDone;
    }

    int joined() {
        if (!goesOn) return -1;
        int n = 0;
        for (Op o : ops) for (Hand h : o.hands) if (h.joined) n++;
        return n;
    }

    boolean isStuck() {
        boolean waits = false;
        for (Op o : ops) {
            for (Channel c : o.channels) waits |= !c.items.isEmpty();
            for (int i = 0; i < o.hands.size(); i++) {
                Hand h = o.hands.get(i);
                if (!h.out.isEmpty()) {
                    waits = true;
                    if (fits(o, i)) return false;
                    continue;
                }
                if (o.kind == Kind.SOURCE) {
                    boolean more = h.taken < o.events.get(i).size() || o.endTold[i] && !h.ended;
                    boolean rest = !h.rests && !h.ended && ticks - h.since >= o.n[1];
                    if (goesOn && !h.joined || more || rest) return false;
                } else if (o.kind == Kind.SIFT && h.rules < o.rules.size() || nextChannel(o, i) != null) {
                    return false;
                }
            }
        }
        return waits;
    }

    int hands(int operator) {
        return op(operator).hands.size();
    }

    int mark(int operator, int hand) {
        return hand(operator, hand).mark;
    }

    boolean rests(int operator, int hand) {
        return hand(operator, hand).rests;
    }

    int outRow(int operator, int hand) {
        return hand(operator, hand).out.size();
    }

    int waiting(int operator, int hand) {
        hand(operator, hand);
        int n = 0;
        for (Channel c : channelsTo(op(operator), hand)) n += c.items.size();
        return n;
    }

    int lost(int operator) {
        int n = 0;
        for (Hand h : op(operator).hands) n += h.lost;
        return n;
    }

    long net(int sink, int key, int time) {
        Op o = sinkOf(sink);
        range(in(key, 0, 15) && in(time, 0, 20000));
        long n = 0;
        for (Got g : o.given) if (g.key == key && g.time == time) n += (long) g.sign * g.value;
        return n;
    }

    int whole(int operator, int key, int time) {
        Op o = op(operator);
        range(o.kind == Kind.WINDOW && o.n[0] <= 1 && in(key, 0, 15) && in(time, 0, 20000));
        List<Op> way = new ArrayList<>();
        Op up = o.first;
        while (up.kind == Kind.SIFT || up.kind == Kind.CHANGE) {
            way.add(0, up);
            up = up.first;
        }
        range(up.kind == Kind.SOURCE);
        int size = o.n[1];
        int slide = o.n[0] == 0 ? size : o.n[2];
        int begin = time - size + 1;
        if ((begin + 300 * slide) % slide != 0) return 0;
        int sum = 0;
        int count = 0;
        for (int p = 0; p < up.hands.size(); p++) {
            for (Item e : up.events.get(p).subList(0, up.hands.get(p).taken)) {
                int value = e.value;
                boolean through = e.key == key && e.time >= begin && e.time <= time;
                for (Op w : way) {
                    if (w.kind == Kind.SIFT) through &= value >= w.n[0];
                    else value = clamp(value * w.n[0] + w.n[1]);
                }
                if (through) {
                    sum += e.sign * value;
                    count += e.sign;
                }
            }
        }
        for (int[] l : o.keys[key].late) {
            if (l[0] == time) {
                sum -= l[1];
                count -= l[2];
            }
        }
        return count == 0 ? 0 : clamp(o.n[3] == 1 ? count : sum);
    }

    int given(int sink) {
        return sinkOf(sink).given.size();
    }

    int givenAt(int sink, int place, int what) {
        Op o = sinkOf(sink);
        index(in(place, 0, o.given.size() - 1));
        range(in(what, 0, 3));
        Got g = o.given.get(place);
        return what == 0 ? g.key : what == 1 ? g.time : what == 2 ? g.value : g.sign;
    }

    int pending(int sink) {
        return sinkOf(sink).got.size();
    }
}
