import java.util.ArrayList;
import java.util.List;
import java.util.Random;
import java.util.function.LongSupplier;

/**
 * Goes through many runs of calls drawn by seeds, with arguments in and out of range, and compares each answer,
 * and all that can be asked of the object, with what Model answers. Arguments: number of runs, first seed.
 */
public final class RandomRunsTest {
    private final Random random;
    private final Barrierbrook brook = new Barrierbrook();
    private final Model model = new Model();
    private final List<String> log = new ArrayList<>();
    private final List<String> kinds = new ArrayList<>();
    private final List<Integer> gathered = new ArrayList<>();
    private boolean differs;
    private static final java.util.TreeMap<String, Integer> seen = new java.util.TreeMap<>();

    private RandomRunsTest(long seed) {
        random = new Random(seed);
    }

    public static void main(String[] args) {
        int runs = args.length > 0 ? Integer.parseInt(args[0]) : 2500;
        long first = args.length > 1 ? Long.parseLong(args[1]) : 1;
        int wrong = 0;
        for (long seed = first; seed < first + runs && wrong < 3; seed++) {
            RandomRunsTest run = new RandomRunsTest(seed);
            run.go();
            if (run.differs) {
                wrong++;
                System.out.println("seed " + seed + ":");
                int from = Math.max(0, run.log.size() - 400);
                for (String line : run.log.subList(from, run.log.size())) System.out.println("  " + line);
            }
        }
        if (args.length > 2) seen.forEach((k, v) -> System.out.println(k + ": " + v));
        System.out.println(wrong == 0 ? runs + " random runs are answered as by the model" : wrong + " runs differ");
        System.exit(wrong == 0 ? 0 : 1);
    }

    private static String answer(LongSupplier call) {
        try {
            return Long.toString(call.getAsLong());
        } catch (RuntimeException e) {
            return e.getClass().getSimpleName();
        }
    }

    private long compare(String call, LongSupplier mine, LongSupplier due) {
        String got = answer(mine);
        String want = answer(due);
        log.add(call + " -> " + got);
        String shape = call.substring(0, call.indexOf('('));
        seen.merge(shape + (Character.isUpperCase(got.charAt(0)) ? " " + got : got.equals("0") ? " 0" : ""), 1, Integer::sum);
        if (!got.equals(want)) {
            log.add("   DUE: " + want);
            differs = true;
        }
        return Character.isLetter(got.charAt(0)) ? Long.MIN_VALUE : Long.parseLong(got);
    }

    private int below(int n) {
        return random.nextInt(n);
    }

    private int between(int a, int b) {
        return b <= a ? a : a + random.nextInt(b - a + 1);
    }

    private boolean rarely() {
        return below(40) == 0;
    }

    /** A number mostly in a range, now and then just outside of it or far away. */
    private int around(int a, int b) {
        if (!rarely()) return between(a, b);
        int[] odd = {a - 1, b + 1, a, b, Integer.MIN_VALUE, Integer.MAX_VALUE, -1, 0};
        return odd[below(odd.length)];
    }

    private int operator() {
        return around(0, Math.max(0, kinds.size() - 1));
    }

    private int of(String kind) {
        List<Integer> all = new ArrayList<>();
        for (int i = 0; i < kinds.size(); i++) if (kinds.get(i).equals(kind)) all.add(i);
        return all.isEmpty() || rarely() ? operator() : all.get(below(all.size()));
    }

    private int input() {
        for (int i = 0; i < 5; i++) {
            int o = operator();
            if (o >= 0 && o < kinds.size() && !kinds.get(o).equals("sink")) return o;
        }
        return operator();
    }

    /** A hand, or partition, mostly one that there is. */
    private int handOf(int o) {
        return o >= 0 && o < kinds.size() ? around(0, brook.hands(o) - 1) : around(0, 2);
    }

    /** An input mostly without a WINDOW or JOIN above it. */
    private int plainInput() {
        int o = input();
        for (int i = 0; i < 10 && o >= 0 && o < kinds.size() && gathered.contains(o); i++) o = input();
        return o;
    }

    private int bool(boolean b) {
        return b ? 1 : 0;
    }

    private void added(String kind, long number, int... inputs) {
        if (number < 0) return;
        kinds.add(kind);
        boolean gathers = kind.equals("window") || kind.equals("join");
        for (int input : inputs) gathers |= gathered.contains(input);
        if (gathers) gathered.add((int) number);
    }

    private void addOne() {
        int kind = below(10);
        boolean plain = kind >= 3 && kind <= 6 && !rarely();
        int a = plain ? plainInput() : input();
        int b = plain ? plainInput() : input();
        for (int i = 0; i < 5 && a == b && !rarely(); i++) b = plain ? plainInput() : input();
        int other = b;
        switch (kind) {
            case 0 -> addSource();
            case 1 -> {
                int least = below(3) == 0 ? around(-9999, 9999) : between(-10, 5);
                added("sift", compare("sift(" + a + ", " + least + ")",
                    () -> brook.sift(a, least), () -> model.sift(a, least)), a);
            }
            case 2 -> {
                int factor = around(-9, 9);
                int more = below(2) == 0 ? between(-5, 5) : around(-9999, 9999);
                added("change", compare("change(" + a + ", " + factor + ", " + more + ")",
                    () -> brook.change(a, factor, more), () -> model.change(a, factor, more)), a);
            }
            case 3, 4, 5 -> addWindow(a);
            case 6 -> {
                int reach = below(2) == 0 ? between(0, 10) : around(0, 100);
                added("join", compare("join(" + a + ", " + other + ", " + reach + ")",
                    () -> brook.join(a, other, reach), () -> model.join(a, other, reach)), a, other);
            }
            case 7 -> added("table", compare("table(" + a + ", " + other + ")",
                () -> brook.table(a, other), () -> model.table(a, other)), a, other);
            case 8 -> {
                int low = between(-10, 5);
                int high = below(10) == 0 ? around(low, 9999) : between(low, 10);
                int many = around(1, 3);
                int reach = below(2) == 0 ? between(0, 20) : around(0, 1000);
                added("pattern", compare("pattern(" + a + ", " + low + ", " + high + ", " + many + ", " + reach + ")",
                    () -> brook.pattern(a, low, high, many, reach),
                    () -> model.pattern(a, low, high, many, reach)), a);
            }
            default -> added("sink", compare("sink(" + a + ")", () -> brook.sink(a), () -> model.sink(a)));
        }
    }

    private void addSource() {
        int partitions = around(1, 3);
        int delay = below(2) == 0 ? between(0, 5) : around(0, 100);
        int patience = below(2) == 0 ? between(1, 5) : around(1, 100);
        added("source", compare("source(" + partitions + ", " + delay + ", " + patience + ")",
            () -> brook.source(partitions, delay, patience), () -> model.source(partitions, delay, patience)));
    }

    private void addWindow(int a) {
        int kind = around(0, 3);
        int size = below(3) == 0 ? around(1, 100) : between(1, 12);
        int near = Math.max(1, Math.min(100, size));
        int slide = kind == 1 ? around((near + 2) / 3, near) : between(-3, 12);
        boolean counts = random.nextBoolean();
        int lateness = below(2) == 0 ? between(0, 8) : around(0, 100);
        int early = below(2) == 0 ? 0 : around(0, 4);
        String call = "window(" + a + ", " + kind + ", " + size + ", " + slide + ", " + counts + ", " + lateness
            + ", " + early + ")";
        added("window", compare(call, () -> brook.window(a, kind, size, slide, counts, lateness, early),
            () -> model.window(a, kind, size, slide, counts, lateness, early)), a);
    }

    private int spread = 60;
    private int keys = 16;
    private int large;

    private void go() {
        spread = new int[] {20, 60, 200, 9999}[below(4)];
        keys = new int[] {2, 4, 16}[below(3)];
        large = below(4);
        if (below(10) > 0) addSource();
        int more = between(1, 9);
        for (int i = 0; i < more && !differs; i++) addOne();
        if (below(3) > 0) {
            for (int i = 0; i < kinds.size() && !differs; i++) {
                if (below(2) == 0 && !kinds.get(i).equals("source")) rescale(i, between(1, 3));
            }
        }
        for (int i = 0; i < kinds.size(); i++) {
            for (int j = 0; j < kinds.size(); j++) {
                int a = i;
                int b = j;
                compare("isSame(" + a + ", " + b + ")", () -> bool(brook.isSame(a, b)), () -> bool(model.isSame(a, b)));
            }
        }
        look();
        int left = between(20, 300);
        for (int i = 0; i < left && !differs; i++) {
            call();
            if (!differs && below(2) == 0) look();
        }
        if (differs) return;
        look();
    }

    private void rescale(int o, int hands) {
        compare("rescale(" + o + ", " + hands + ")", () -> brook.rescale(o, hands), () -> model.rescale(o, hands));
    }

    private void call() {
        int kind = below(100);
        if (kind < 26) {
            tellEvent();
        } else if (kind < 30) {
            int s = of("source");
            int p = handOf(s);
            int e = around(0, 5);
            int v = around(-20, 20);
            compare("correct(" + s + ", " + p + ", " + e + ", " + v + ")",
                () -> brook.correct(s, p, e, v), () -> model.correct(s, p, e, v));
        } else if (kind < 31) {
            int s = of("source");
            int p = handOf(s);
            compare("end(" + s + ", " + p + ")", () -> {
                brook.end(s, p);
                return 0;
            }, () -> {
                model.end(s, p);
                return 0;
            });
        } else if (kind < 34) {
            int s = of("sift");
            int v = around(-20, 20);
            compare("rule(" + s + ", " + v + ")", () -> brook.rule(s, v), () -> model.rule(s, v));
        } else if (kind < 39) {
            int t = below(3) == 0 ? around(1, 1000) : between(1, 4);
            compare("tick(" + t + ")", () -> brook.tick(t), () -> model.tick(t));
        } else if (kind < 65) {
            int o = operator();
            int h = handOf(o);
            compare("step(" + o + ", " + h + ")", () -> brook.step(o, h), () -> model.step(o, h));
        } else if (kind < 83) {
            int r = below(8) == 0 ? around(1, 50) : between(1, 4);
            compare("run(" + r + ")", () -> brook.run(r), () -> model.run(r));
        } else if (kind < 92) {
            boolean overtakes = below(4) == 0;
            compare("cut(" + overtakes + ")", () -> brook.cut(overtakes), () -> model.cut(overtakes));
        } else if (kind < 95) {
            compare("crash()", brook::crash, model::crash);
        } else if (kind < 98) {
            rescale(operator(), around(1, 3));
        } else {
            addOne();
        }
    }

    private void tellEvent() {
        int s = of("source");
        int p = below(3) > 0 ? 0 : handOf(s);
        int t = spread == 9999 ? around(0, 9999) : between(0, spread);
        int k = rarely() ? around(0, 15) : 16 / keys * below(keys);
        int v = large == 0 ? around(-9999, 9999) : between(-10, 12);
        compare("event(" + s + ", " + p + ", " + t + ", " + k + ", " + v + ")",
            () -> brook.event(s, p, t, k, v), () -> model.event(s, p, t, k, v));
    }

    private void look() {
        int place = log.size();
        compare("joined()", brook::joined, model::joined);
        compare("isStuck()", () -> bool(brook.isStuck()), () -> bool(model.isStuck()));
        for (int i = 0; i <= kinds.size() && !differs; i++) {
            int o = i;
            compare("hands(" + o + ")", () -> brook.hands(o), () -> model.hands(o));
            compare("lost(" + o + ")", () -> brook.lost(o), () -> model.lost(o));
            for (int j = 0; j <= 3; j++) {
                int h = j;
                compare("mark(" + o + ", " + h + ")", () -> brook.mark(o, h), () -> model.mark(o, h));
                compare("rests(" + o + ", " + h + ")", () -> bool(brook.rests(o, h)), () -> bool(model.rests(o, h)));
                compare("outRow(" + o + ", " + h + ")", () -> brook.outRow(o, h), () -> model.outRow(o, h));
                compare("waiting(" + o + ", " + h + ")", () -> brook.waiting(o, h), () -> model.waiting(o, h));
            }
            lookAtSink(o);
            lookAtWindow(o);
        }
        // Only what differs is worth a place in the log.
        if (!differs) while (log.size() > place) log.remove(log.size() - 1);
    }

    private void lookAtSink(int o) {
        compare("pending(" + o + ")", () -> brook.pending(o), () -> model.pending(o));
        long given = compare("given(" + o + ")", () -> brook.given(o), () -> model.given(o));
        for (int g = (int) Math.max(0, given - 40); g <= given && !differs; g++) {
            int place = g;
            for (int w = 0; w < 4; w++) {
                int what = w;
                compare("givenAt(" + o + ", " + place + ", " + what + ")",
                    () -> brook.givenAt(o, place, what), () -> model.givenAt(o, place, what));
            }
        }
        int key = given > 0 && below(3) > 0 ? brook.givenAt(o, 0, 0) : around(0, 15);
        int time = given > 0 && below(3) > 0 ? brook.givenAt(o, 0, 1) : around(0, 20000);
        compare("net(" + o + ", " + key + ", " + time + ")",
            () -> brook.net(o, key, time), () -> model.net(o, key, time));
    }

    private void lookAtWindow(int o) {
        if (o < kinds.size() && !kinds.get(o).equals("window") && !rarely()) return;
        int key = 16 / keys * below(keys);
        int from = below(3) == 0 ? around(0, 20000) : between(0, 60);
        for (int t = from; t < from + 12 && t >= from; t++) {
            int time = t;
            compare("whole(" + o + ", " + key + ", " + time + ")",
                () -> brook.whole(o, key, time), () -> model.whole(o, key, time));
        }
    }
}
