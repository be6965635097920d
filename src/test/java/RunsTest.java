import java.math.BigInteger;
import java.util.ArrayList;
import java.util.Arrays;
import java.util.HashMap;
import java.util.List;
import java.util.Map;
import java.util.Random;
import java.util.TreeMap;
import java.util.TreeSet;

/**
 * Runs of 512 calls on one object, drawn over the whole ranges of the document and a little beyond,
 * each answer held against a model that knows nothing of spans: it keeps every pair of numbers
 * inside as one bit and moves it by every number that may have passed.
 */
public final class RunsTest {
    private static final int NONE = DoorBench.NONE;
    private static final int RUNS = 12;
    private static final String INDEX = "IndexOutOfBoundsException";
    private static final String ELEMENT = "NoSuchElementException";
    private static final String[] CALLS = {"day", "door", "row", "lack", "start", "check", "uncheck", "fits", "inside",
        "could", "surely", "through", "worse", "quarrel", "look", "count"};

    /** How often each call is drawn, in the order of CALLS. */
    private static final int[] OFTEN = {1, 6, 24, 4, 3, 9, 4, 5, 30, 8, 8, 30, 6, 6, 5, 5};

    private static final Map<String, Integer> ANSWERS = new HashMap<>();
    private static int wrong = 0;

    /** Pairs (A, B): for each A a row of bits, one for each B. */
    private static final class Pairs {
        // Within a TICK, before it is seen who is below 0, six DOORS may take out 30 each.
        private static final int SHIFT = 200;

        final TreeMap<Integer, BigInteger> rows = new TreeMap<>();

        void add(int a, BigInteger bits) {
            if (bits.signum() != 0) {
                rows.merge(a, bits, BigInteger::or);
            }
        }

        static BigInteger bits(int low, int high) {
            int from = Math.max(low, -SHIFT) + SHIFT;
            int to = high + SHIFT;
            return to < from ? BigInteger.ZERO : BigInteger.ONE.shiftLeft(to - from + 1).subtract(BigInteger.ONE).shiftLeft(from);
        }

        Pairs moved(int kind, int net) {
            Pairs to = new Pairs();
            rows.forEach((a, bits) -> to.add(kind == 0 ? a + net : kind == 1 ? a : a - net, kind == 0 ? bits : bits.shiftLeft(net)));
            return to;
        }

        /** Each number of an unbroken row of them, by doubling what has been reached so far. */
        Pairs movedByEach(int kind, TreeSet<Integer> nets, int sign) {
            int width = nets.last() - nets.first() + 1;
            if (nets.size() != width) {
                throw new IllegalArgumentException("numbers with a gap: " + nets);
            }
            Pairs to = moved(kind, sign > 0 ? nets.first() : -nets.last());
            int reached = 1;
            while (reached < width) {
                int step = Math.min(reached, width - reached);
                to.moved(kind, step).rows.forEach(to::add);
                reached += step;
            }
            return to;
        }

        Pairs within(int what, int low, int high) {
            Pairs to = new Pairs();
            rows.forEach((a, bits) -> {
                if (what == 0) {
                    to.add(a, low <= a && a <= high ? bits : BigInteger.ZERO);
                } else {
                    int less = what == 1 ? 0 : a;
                    to.add(a, bits.and(bits(low - less, high - less)));
                }
            });
            return to;
        }

        Pairs and(Pairs other) {
            Pairs to = new Pairs();
            rows.forEach((a, bits) -> to.add(a, bits.and(other.rows.getOrDefault(a, BigInteger.ZERO))));
            return to;
        }

        boolean isEmpty() {
            return rows.isEmpty();
        }

        int end(int what, boolean most) {
            TreeSet<Integer> ends = new TreeSet<>();
            rows.forEach((a, bits) -> {
                int b = (most ? bits.bitLength() - 1 : bits.getLowestSetBit()) - SHIFT;
                ends.add(what == 0 ? a : what == 1 ? b : a + b);
            });
            return most ? ends.last() : ends.first();
        }
    }

    private static final class Door {
        final int kind;
        final int miss;
        final int doubled;
        final int cap;
        /** TICK to what was told, IN and OUT; a TICK that is not in it LACKS. */
        final Map<Integer, int[]> told = new HashMap<>();

        Door(int kind, int miss, int doubled, int cap) {
            this.kind = kind;
            this.miss = miss;
            this.doubled = doubled;
            this.cap = cap;
        }

        private boolean mayPass(int tick, int way, int passed, int more) {
            if (!told.containsKey(tick)) {
                return passed <= cap;
            }
            int n = told.get(tick)[way];
            return n - (doubled + more) <= passed && passed <= n + miss + more;
        }

        TreeSet<Integer> nets(int tick, int more) {
            TreeSet<Integer> nets = new TreeSet<>();
            for (int in = 0; in <= 30; in++) {
                for (int out = 0; out <= 30; out++) {
                    if (mayPass(tick, 0, in, more) && mayPass(tick, 1, out, more)) {
                        nets.add(in - out);
                    }
                }
            }
            return nets;
        }

        int sum(int way) {
            return told.values().stream().mapToInt(row -> row[way]).sum();
        }
    }

    private static final class Model {
        int ticks = 1;
        List<Door> doors = new ArrayList<>();
        int[][] start = new int[2][2];
        List<int[]> checks = new ArrayList<>();
        /** What is in a TRUTH at each TIME; null: not found yet, or there is no TRUTH. */
        private List<Pairs> truths;
        private List<Pairs> ahead;

        private static boolean in(int low, int number, int high) {
            return low <= number && number <= high;
        }

        private boolean isDoor(int door) {
            return in(0, door, doors.size() - 1);
        }

        private Pairs kept(Pairs pairs, int time) {
            Pairs kept = pairs.within(0, 0, 1000000).within(1, 0, 30000);
            for (int[] check : checks) {
                kept = check[0] == time ? kept.within(check[1], check[2], check[3]) : kept;
            }
            return kept;
        }

        /** By what is told up to each TIME; it ends with the first at which none are left. */
        private List<Pairs> goAhead(int more) {
            Pairs now = new Pairs();
            for (int a = start[0][0]; a <= start[0][1]; a++) {
                now.add(a, Pairs.bits(start[1][0], start[1][1]));
            }
            List<Pairs> all = new ArrayList<>();
            all.add(kept(now, 0));
            for (int tick = 0; tick < ticks && !all.get(tick).isEmpty(); tick++) {
                now = all.get(tick);
                for (Door door : doors) {
                    now = now.movedByEach(door.kind, door.nets(tick, more), 1);
                }
                all.add(kept(now, tick + 1));
            }
            return all;
        }

        private static boolean isWhole(List<Pairs> all) {
            return !all.get(all.size() - 1).isEmpty();
        }

        boolean findTruths() {
            if (ahead == null) {
                ahead = goAhead(0);
                truths = null;
            }
            if (truths == null && isWhole(ahead)) {
                truths = new ArrayList<>(ahead);
                for (int tick = ticks - 1; tick >= 0; tick--) {
                    Pairs before = truths.get(tick + 1);
                    for (Door door : doors) {
                        before = before.movedByEach(door.kind, door.nets(tick, 0), -1);
                    }
                    truths.set(tick, before.and(ahead.get(tick)));
                }
            }
            return truths != null;
        }

        private int through(int door, int tick, boolean most) {
            Pairs others = ahead.get(tick);
            for (int d = 0; d < doors.size(); d++) {
                if (d != door) {
                    others = others.movedByEach(doors.get(d).kind, doors.get(d).nets(tick, 0), 1);
                }
            }
            TreeSet<Integer> may = new TreeSet<>();
            for (int net : doors.get(door).nets(tick, 0)) {
                if (!others.moved(doors.get(door).kind, net).and(truths.get(tick + 1)).isEmpty()) {
                    may.add(net);
                }
            }
            return most ? may.last() : may.first();
        }

        private int firstAbove(int limit, boolean most) {
            for (int time = 0; in(0, limit, 99999) && findTruths() && time <= ticks; time++) {
                if (truths.get(time).end(2, most) > limit) {
                    return time;
                }
            }
            return NONE;
        }

        private int worse() {
            for (int k = 0; k <= 5; k++) {
                if (isWhole(goAhead(k))) {
                    return k;
                }
            }
            return NONE;
        }

        private boolean day(int newTicks) {
            if (!in(1, newTicks, 60)) {
                return false;
            }
            ticks = newTicks;
            doors = new ArrayList<>();
            start = new int[2][2];
            checks = new ArrayList<>();
            return true;
        }

        private int door(int[] n) {
            boolean can = in(0, n[0], 2) && in(0, n[1], 5) && in(0, n[2], 5) && in(0, n[3], 20) && doors.size() < 6;
            if (can) {
                doors.add(new Door(n[0], n[1], n[2], n[3]));
            }
            return can ? doors.size() - 1 : NONE;
        }

        private boolean row(int[] n) {
            boolean can = isDoor(n[0]) && in(0, n[1], ticks - 1) && in(0, n[2], 20) && in(0, n[3], 20);
            if (can) {
                doors.get(n[0]).told.put(n[1], new int[] {n[2], n[3]});
            }
            return can;
        }

        private boolean lack(int[] n) {
            boolean can = isDoor(n[0]) && in(0, n[1], ticks - 1) && in(0, n[2], ticks - 1) && n[1] <= n[2];
            if (can) {
                doors.get(n[0]).told.keySet().removeIf(tick -> in(n[1], tick, n[2]));
            }
            return can;
        }

        private boolean start(int[] n) {
            boolean can = in(0, n[0], 1) && 0 <= n[1] && n[1] <= n[2] && n[2] <= 9999;
            if (can) {
                start[n[0]] = new int[] {n[1], n[2]};
            }
            return can;
        }

        private int check(int[] n) {
            boolean can = in(0, n[0], ticks) && in(0, n[1], 2) && 0 <= n[2] && n[2] <= n[3] && n[3] <= 9999 && checks.size() < 20;
            if (can) {
                checks.add(n.clone());
            }
            return can ? checks.size() - 1 : NONE;
        }

        private int uncheck() {
            if (checks.isEmpty()) {
                return NONE;
            }
            checks.remove(checks.size() - 1);
            return checks.size();
        }

        private String look(int door, int what) {
            if (!isDoor(door)) {
                return INDEX;
            }
            Door d = doors.get(door);
            int[] all = {d.kind, d.miss, d.doubled, d.cap, d.told.size(), d.sum(0), d.sum(1)};
            return in(0, what, 6) ? "" + all[what] : ELEMENT;
        }

        private int count(int what) {
            int[] all = {ticks, doors.size(), checks.size(), doors.stream().mapToInt(d -> d.told.size()).sum()};
            return in(0, what, 3) ? all[what] : NONE;
        }

        private String told(boolean indices, boolean inside, int[] n) {
            if (!indices) {
                return INDEX;
            }
            if (!findTruths()) {
                return ELEMENT;
            }
            return "" + (inside ? truths.get(n[0]).end(n[1], n[2] == 1) : through(n[0], n[1], n[2] == 1));
        }

        private String change(int call, int[] n) {
            ahead = null;
            truths = null;
            switch (call) {
                case 0: return "" + day(n[0]);
                case 1: return "" + door(n);
                case 2: return "" + row(n);
                case 3: return "" + lack(n);
                case 4: return "" + start(n);
                case 5: return "" + check(n);
                default: return "" + uncheck();
            }
        }

        String answer(int call, int[] n) {
            switch (call) {
                case 7: return findTruths() ? "1" : "0";
                case 8: return told(in(0, n[0], ticks) && in(0, n[1], 2), true, n);
                case 9: return "" + firstAbove(n[0], true);
                case 10: return "" + firstAbove(n[0], false);
                case 11: return told(isDoor(n[0]) && in(0, n[1], ticks - 1), false, n);
                case 12: return "" + worse();
                case 13: return findTruths() ? "" + NONE : "" + (ahead.size() - 1);
                case 14: return look(n[0], n[1]);
                case 15: return "" + count(n[0]);
                default: return change(call, n);
            }
        }
    }

    private static String ask(DoorBench x, int call, int[] n) {
        switch (call) {
            case 0: return "" + x.day(n[0]);
            case 1: return "" + x.door(n[0], n[1], n[2], n[3]);
            case 2: return "" + x.row(n[0], n[1], n[2], n[3]);
            case 3: return "" + x.lack(n[0], n[1], n[2]);
            case 4: return "" + x.start(n[0], n[1], n[2]);
            case 5: return "" + x.check(n[0], n[1], n[2], n[3]);
            case 6: return "" + x.uncheck();
            case 7: return "" + x.fits();
            case 8: return "" + x.inside(n[0], n[1], n[2] == 1);
            case 9: return "" + x.could(n[0]);
            case 10: return "" + x.surely(n[0]);
            case 11: return "" + x.through(n[0], n[1], n[2] == 1);
            case 12: return "" + x.worse();
            case 13: return "" + x.quarrel();
            case 14: return "" + x.look(n[0], n[1]);
            default: return "" + x.count(n[0]);
        }
    }

    private static String answer(DoorBench x, int call, int[] n) {
        try {
            return ask(x, call, n);
        } catch (RuntimeException e) {
            return e.getClass().getSimpleName();
        }
    }

    /** Draws calls: most of them can be, and most CHECKS are near what is inside in a TRUTH. */
    private static final class Drawing {
        final Random lot;
        final Model model;
        final int mostTicks;

        Drawing(long seed, int mostTicks) {
            lot = new Random(seed);
            model = new Model();
            this.mostTicks = mostTicks;
        }

        /** From low to high, both ends more often than others, and at times the next beyond. */
        int from(int low, int high) {
            switch (lot.nextInt(40)) {
                case 0: return low - 1;
                case 1: return high + 1;
                case 2: case 3: return low;
                case 4: case 5: return Math.max(low, high);
                default: return low + lot.nextInt(Math.max(1, high - low + 1));
            }
        }

        private int door() {
            return from(0, model.doors.size() - 1);
        }

        private int tick() {
            return from(0, model.ticks - 1);
        }

        private int[] start() {
            int low = lot.nextInt(20) == 0 ? from(9950, 9999) : from(0, 80);
            return new int[] {from(0, 1), low, low + from(0, 30)};
        }

        private int[] check() {
            int time = from(0, model.ticks);
            int what = from(0, 2);
            int low = from(0, 60);
            if (lot.nextInt(8) != 0 && Model.in(0, time, model.ticks) && Model.in(0, what, 2) && model.findTruths()) {
                low = from(model.truths.get(time).end(what, false), model.truths.get(time).end(what, true));
            }
            return new int[] {time, what, low, low + from(0, 12)};
        }

        private int limit() {
            if (lot.nextInt(20) == 0) {
                return from(0, 99999);
            }
            return model.findTruths() ? model.truths.get(lot.nextInt(model.ticks + 1)).end(2, lot.nextBoolean()) - lot.nextInt(2) : from(0, 50);
        }

        int call() {
            // A day without DOORS tells little.
            if (model.doors.size() < 2 && lot.nextInt(3) > 0) {
                return 1;
            }
            // Without a TRUTH most questions have but one answer: let one come back soon.
            if (!model.findTruths() && lot.nextInt(5) == 0) {
                return new int[] {3, 4, 6, 6}[lot.nextInt(4)];
            }
            int at = lot.nextInt(Arrays.stream(OFTEN).sum());
            int call = 0;
            while (at >= OFTEN[call]) {
                at -= OFTEN[call];
                call++;
            }
            return call;
        }

        int[] numbers(int call) {
            switch (call) {
                case 0: return new int[] {lot.nextInt(4) == 0 ? 61 * lot.nextInt(2) : 1 + lot.nextInt(mostTicks)};
                case 1: return new int[] {from(0, 2), from(0, 5), from(0, 5), from(0, 20)};
                case 2: return new int[] {door(), tick(), from(0, 20), from(0, 20)};
                case 3: return new int[] {door(), tick(), tick()};
                case 4: return start();
                case 5: return check();
                case 8: return new int[] {from(0, model.ticks), from(0, 2), lot.nextInt(2)};
                case 9: case 10: return new int[] {limit()};
                case 11: return new int[] {door(), tick(), lot.nextInt(2)};
                case 14: return new int[] {door(), from(0, 6)};
                case 15: return new int[] {from(0, 3)};
                default: return new int[0];
            }
        }
    }

    /** What kind of answer it was, so that main can see that each of them came up. */
    private static String kindOf(int call, String answer) {
        boolean word = answer.equals(INDEX) || answer.equals(ELEMENT) || answer.equals("true") || answer.equals("false");
        boolean number = !word && !answer.equals("-1") && call != 7;
        return CALLS[call] + " " + (number ? "a number" : answer);
    }

    private static void compareRun(long seed, int mostTicks) {
        Drawing drawing = new Drawing(seed, mostTicks);
        DoorBench x = new DoorBench();
        for (int i = 0; i < 512; i++) {
            int call = i == 0 ? 0 : drawing.call();
            int[] n = drawing.numbers(call);
            String want = drawing.model.answer(call, n);
            String got = answer(x, call, n);
            ANSWERS.merge(kindOf(call, want), 1, Integer::sum);
            if (!got.equals(want)) {
                wrong++;
                System.out.println("seed " + seed + ", call " + i + ": " + CALLS[call] + " of " + Arrays.toString(n) + " answered " + got + ", due is " + want);
            }
        }
    }

    private static void lookAtKinds() {
        String[] kinds = {"day true", "day false", "door a number", "door -1", "row true", "row false", "lack true", "lack false",
            "start true", "start false", "check a number", "check -1", "uncheck a number", "uncheck -1", "fits 1", "fits 0",
            "inside a number", "inside " + INDEX, "inside " + ELEMENT, "could a number", "could -1", "surely a number", "surely -1",
            "through a number", "through " + INDEX, "through " + ELEMENT, "worse a number", "worse -1", "quarrel a number",
            "quarrel -1", "look a number", "look " + INDEX, "look " + ELEMENT, "count a number", "count -1"};
        for (String kind : kinds) {
            if (ANSWERS.getOrDefault(kind, 0) == 0) {
                wrong++;
                System.out.println("never due: " + kind);
            }
        }
    }

    public static void main(String[] args) {
        int runs = args.length > 0 ? Integer.parseInt(args[0]) : RUNS;
        int mostTicks = args.length > 1 ? Integer.parseInt(args[1]) : 5;
        int firstSeed = args.length > 2 ? Integer.parseInt(args[2]) : 0;
        for (int run = 0; run < runs; run++) {
            compareRun(firstSeed + run, mostTicks);
        }
        if (runs >= RUNS) {
            lookAtKinds();
        }
        int answers = ANSWERS.values().stream().mapToInt(Integer::intValue).sum();
        System.out.println(runs + " runs of 512 calls: " + answers + " answers looked at, " + wrong + " wrong");
        if (wrong != 0) {
            System.exit(1);
        }
    }
}
