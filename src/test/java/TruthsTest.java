import java.util.ArrayList;
import java.util.HashSet;
import java.util.List;
import java.util.NoSuchElementException;
import java.util.Set;

/**
 * Holds the bench against a plain model that knows nothing of spans: it keeps every pair of
 * numbers inside as one member of a set and tries every number that may have passed.
 */
public final class TruthsTest {
    private static final int NONE = DoorBench.NONE;
    private static final int SHIFT = 1000;
    private static final int WIDTH = 4000;

    private static int answers = 0;
    private static int wrong = 0;

    /** Numbers that look drawn by lot and are the same in each run. */
    private static final class Lot {
        private long seed;

        Lot(long seed) {
            this.seed = seed;
        }

        int upTo(int most) {
            seed = seed * 6364136223846793005L + 1442695040888963407L;
            return (int) Long.remainderUnsigned(seed >>> 33, most + 1L);
        }

        int from(int least, int most) {
            return least + upTo(most - least);
        }
    }

    private static final class Door {
        final int kind;
        final int miss;
        final int doubled;
        final int cap;
        final int[] in;
        final int[] out;

        Door(int kind, int miss, int doubled, int cap, int ticks) {
            this.kind = kind;
            this.miss = miss;
            this.doubled = doubled;
            this.cap = cap;
            in = new int[ticks];
            out = new int[ticks];
            java.util.Arrays.fill(in, NONE);
            java.util.Arrays.fill(out, NONE);
        }

        boolean mayPass(int told, int passed, int more) {
            if (told == NONE) {
                return 0 <= passed && passed <= cap;
            }
            return passed >= 0 && passed >= told - doubled - more && passed <= told + miss + more;
        }

        Set<Integer> nets(int tick, int more) {
            Set<Integer> nets = new HashSet<>();
            for (int i = 0; i <= 30; i++) {
                for (int o = 0; o <= 30; o++) {
                    if (mayPass(in[tick], i, more) && mayPass(out[tick], o, more)) {
                        nets.add(i - o);
                    }
                }
            }
            return nets;
        }
    }

    private static final class Model {
        int ticks;
        final List<Door> doors = new ArrayList<>();
        final int[] startLow = new int[2];
        final int[] startHigh = new int[2];
        final List<int[]> checks = new ArrayList<>();

        static int pair(int a, int b) {
            return (a + SHIFT) * WIDTH + b + SHIFT;
        }

        static int number(int pair, int what) {
            int a = pair / WIDTH - SHIFT;
            int b = pair % WIDTH - SHIFT;
            return what == 0 ? a : what == 1 ? b : a + b;
        }

        boolean allowed(int time, int pair) {
            if (number(pair, 0) < 0 || number(pair, 1) < 0) {
                return false;
            }
            for (int[] check : checks) {
                int n = number(pair, check[1]);
                if (check[0] == time && (n < check[2] || n > check[3])) {
                    return false;
                }
            }
            return true;
        }

        Set<Integer> keep(int time, Set<Integer> pairs) {
            Set<Integer> kept = new HashSet<>();
            for (int pair : pairs) {
                if (allowed(time, pair)) {
                    kept.add(pair);
                }
            }
            return kept;
        }

        static Set<Integer> moved(Set<Integer> pairs, int kind, Set<Integer> nets, int sign) {
            Set<Integer> to = new HashSet<>();
            for (int pair : pairs) {
                int a = number(pair, 0);
                int b = number(pair, 1);
                for (int net : nets) {
                    int n = sign * net;
                    to.add(kind == 0 ? pair(a + n, b) : kind == 1 ? pair(a, b + n) : pair(a - n, b + n));
                }
            }
            return to;
        }

        /** The pairs behind each TICK by what is before; a DOOR's net at a TICK may be held fast. */
        List<Set<Integer>> ahead(int more, int fastDoor, int fastTick, int fastNet) {
            Set<Integer> now = new HashSet<>();
            for (int a = startLow[0]; a <= startHigh[0]; a++) {
                for (int b = startLow[1]; b <= startHigh[1]; b++) {
                    now.add(pair(a, b));
                }
            }
            List<Set<Integer>> all = new ArrayList<>();
            now = keep(0, now);
            all.add(now);
            for (int tick = 0; tick < ticks; tick++) {
                for (int d = 0; d < doors.size(); d++) {
                    boolean fast = d == fastDoor && tick == fastTick;
                    Set<Integer> nets = fast ? Set.of(fastNet) : doors.get(d).nets(tick, more);
                    now = moved(now, doors.get(d).kind, nets, 1);
                }
                now = keep(tick + 1, now);
                all.add(now);
            }
            return all;
        }

        /** Of the pairs ahead those that lie in a TRUTH. */
        List<Set<Integer>> inTruths() {
            List<Set<Integer>> all = ahead(0, NONE, NONE, 0);
            for (int tick = ticks - 1; tick >= 0; tick--) {
                Set<Integer> before = all.get(tick + 1);
                for (Door door : doors) {
                    before = moved(before, door.kind, door.nets(tick, 0), -1);
                }
                all.get(tick).retainAll(before);
            }
            return all;
        }

        boolean fits(int more) {
            return !ahead(more, NONE, NONE, 0).get(ticks).isEmpty();
        }
    }

    private static void due(int round, String call, long got, long want) {
        answers++;
        if (got != want) {
            wrong++;
            System.out.println("round " + round + ": " + call + " answered " + got + ", due is " + want);
        }
    }

    private static int least(Set<Integer> pairs, int what) {
        int least = Integer.MAX_VALUE;
        for (int pair : pairs) {
            least = Math.min(least, Model.number(pair, what));
        }
        return least;
    }

    private static int most(Set<Integer> pairs, int what) {
        int most = Integer.MIN_VALUE;
        for (int pair : pairs) {
            most = Math.max(most, Model.number(pair, what));
        }
        return most;
    }

    private static void addChecks(Lot lot, Model m, DoorBench x, int checks, int mostInside) {
        for (int i = 0; i < checks; i++) {
            int time = lot.upTo(m.ticks);
            int what = lot.upTo(2);
            int low = lot.upTo(mostInside);
            int high = low + lot.upTo(3);
            m.checks.add(new int[] {time, what, low, high});
            x.check(time, what, low, high);
        }
    }

    private static void addDoors(Lot lot, Model m, DoorBench x, int doors, int mostCap) {
        for (int d = 0; d < doors; d++) {
            Door door = new Door(lot.upTo(2), lot.upTo(2) / 2, lot.upTo(2) / 2, lot.upTo(mostCap), m.ticks);
            m.doors.add(door);
            x.door(door.kind, door.miss, door.doubled, door.cap);
            for (int tick = 0; tick < m.ticks; tick++) {
                if (lot.upTo(2) > 0) {
                    door.in[tick] = lot.upTo(5);
                    door.out[tick] = lot.upTo(4);
                    x.row(d, tick, door.in[tick], door.out[tick]);
                }
            }
        }
    }

    private static void compareUnfit(int round, Model m, DoorBench x) {
        List<Set<Integer>> ahead = m.ahead(0, NONE, NONE, 0);
        int first = 0;
        while (!ahead.get(first).isEmpty()) {
            first++;
        }
        due(round, "quarrel", x.quarrel(), first);
        int more = 1;
        while (more <= 5 && !m.fits(more)) {
            more++;
        }
        due(round, "worse", x.worse(), more <= 5 ? more : NONE);
        due(round, "could", x.could(0), NONE);
        due(round, "surely", x.surely(0), NONE);
        due(round, "inside throws", throwsOf(x, true), 1);
        due(round, "through throws", m.doors.isEmpty() ? 1 : throwsOf(x, false), 1);
    }

    private static int throwsOf(DoorBench x, boolean inside) {
        try {
            int answer = inside ? x.inside(0, 0, true) : x.through(0, 0, true);
            System.out.println("answered " + answer);
            return 0;
        } catch (NoSuchElementException e) {
            return 1;
        }
    }

    private static void compareFit(int round, Model m, DoorBench x) {
        List<Set<Integer>> all = m.inTruths();
        due(round, "quarrel", x.quarrel(), NONE);
        due(round, "worse", x.worse(), 0);
        for (int time = 0; time <= m.ticks; time++) {
            for (int what = 0; what <= 2; what++) {
                due(round, "inside " + time + " " + what, x.inside(time, what, false), least(all.get(time), what));
                due(round, "inside " + time + " " + what, x.inside(time, what, true), most(all.get(time), what));
            }
        }
        for (int limit = 0; limit <= 40; limit++) {
            int could = NONE;
            int surely = NONE;
            for (int time = m.ticks; time >= 0; time--) {
                could = most(all.get(time), 2) > limit ? time : could;
                surely = least(all.get(time), 2) > limit ? time : surely;
            }
            due(round, "could " + limit, x.could(limit), could);
            due(round, "surely " + limit, x.surely(limit), surely);
        }
        for (int d = 0; d < m.doors.size(); d++) {
            for (int tick = 0; tick < m.ticks; tick++) {
                compareThrough(round, m, x, d, tick);
            }
        }
    }

    private static void compareThrough(int round, Model m, DoorBench x, int door, int tick) {
        int least = Integer.MAX_VALUE;
        int most = Integer.MIN_VALUE;
        for (int net : m.doors.get(door).nets(tick, 0)) {
            if (!m.ahead(0, door, tick, net).get(m.ticks).isEmpty()) {
                least = Math.min(least, net);
                most = Math.max(most, net);
            }
        }
        due(round, "through " + door + " " + tick, x.through(door, tick, false), least);
        due(round, "through " + door + " " + tick, x.through(door, tick, true), most);
    }

    /** Answers whether there was a TRUTH, so that main can see that both kinds came up. */
    private static boolean compareOne(int round) {
        Lot lot = new Lot(round * 7919L + 17);
        for (int i = 0; i < 8; i++) {
            lot.upTo(1);
        }
        Model m = new Model();
        DoorBench x = new DoorBench();
        m.ticks = lot.from(1, 4);
        x.day(m.ticks);
        addDoors(lot, m, x, lot.upTo(4), 3);
        for (int hall = 0; hall < 2; hall++) {
            m.startLow[hall] = lot.upTo(4);
            m.startHigh[hall] = m.startLow[hall] + lot.upTo(3);
            x.start(hall, m.startLow[hall], m.startHigh[hall]);
        }
        addChecks(lot, m, x, lot.upTo(4), 9);
        boolean fits = m.fits(0);
        due(round, "fits", x.fits(), fits ? 1 : 0);
        if (fits) {
            compareFit(round, m, x);
        } else {
            compareUnfit(round, m, x);
        }
        return fits;
    }

    public static void main(String[] args) {
        int rounds = args.length > 0 ? Integer.parseInt(args[0]) : 3000;
        int fitting = 0;
        for (int round = 0; round < rounds; round++) {
            if (compareOne(round)) {
                fitting++;
            }
        }
        System.out.println(rounds + " benches, " + fitting + " with a TRUTH: " + answers + " answers looked at, " + wrong + " wrong");
        if (wrong != 0 || fitting * 10 < rounds || fitting * 10 > rounds * 9) {
            System.exit(1);
        }
    }
}
