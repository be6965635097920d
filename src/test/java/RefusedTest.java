import java.util.ArrayList;
import java.util.List;

/**
 * A refused call answers as the document says and changes nothing that other calls show: on new
 * benches, full ones, wide ones and ones without a TRUTH, with one test for each method.
 */
public final class RefusedTest extends Dues {
    // With what a bench takes to be made, this stays below the 512 calls that are promised.
    private static final int QUESTIONS_A_BENCH = 350;

    /** A kind of bench; each call of making gives a new one, made by the same calls. */
    private static final class Kind {
        final String name;
        final Making making;
        final int ticks;
        final int doors;
        final int checks;
        final boolean fits;
        final String before;

        Kind(String name, Making making) {
            this.name = name;
            this.making = making;
            DoorBench x = making.bench();
            ticks = x.count(0);
            doors = x.count(1);
            checks = x.count(2);
            fits = x.fits() == 1;
            before = shown(making, ticks, doors);
        }
    }

    private static final List<Kind> KINDS = new ArrayList<>();

    // ---- what a bench shows

    private static void askInside(List<Asking> list, int ticks) {
        for (int time = 0; time <= ticks; time++) {
            for (int what = 0; what <= 2; what++) {
                int t = time;
                int w = what;
                list.add(x -> x.inside(t, w, false));
                list.add(x -> x.inside(t, w, true));
            }
        }
    }

    private static void askDoors(List<Asking> list, int ticks, int doors) {
        for (int door = 0; door < doors; door++) {
            int d = door;
            for (int what = 0; what <= 6; what++) {
                int w = what;
                list.add(x -> x.look(d, w));
            }
            for (int tick = 0; tick < ticks; tick++) {
                int t = tick;
                list.add(x -> x.through(d, t, false));
                list.add(x -> x.through(d, t, true));
            }
        }
    }

    private static List<Asking> questions(int ticks, int doors) {
        List<Asking> list = new ArrayList<>();
        for (int what = 0; what <= 3; what++) {
            int w = what;
            list.add(x -> x.count(w));
        }
        list.add(x -> x.fits());
        list.add(x -> x.worse());
        list.add(x -> x.quarrel());
        for (int limit : new int[] {0, 1, 2, 3, 5, 8, 20, 100, 1000, 9999, 19997, 99999}) {
            list.add(x -> x.could(limit));
            list.add(x -> x.surely(limit));
        }
        askInside(list, ticks);
        askDoors(list, ticks, doors);
        return list;
    }

    /** Calls that change a bench, so that what a refused call left behind would come to light. */
    private static List<Asking> goingOn(int ticks, int doors) {
        List<Asking> list = new ArrayList<>();
        list.add(x -> x.door(1, 1, 0, 2));
        list.add(x -> x.look(doors, 3));
        list.add(x -> x.look(doors, 4));
        list.add(x -> x.through(doors, ticks - 1, true));
        list.add(x -> x.check(ticks, 2, 0, 30));
        list.add(x -> x.inside(ticks, 2, true));
        list.add(x -> x.uncheck());
        list.add(x -> x.uncheck());
        list.add(x -> x.inside(ticks, 2, true));
        list.add(x -> x.quarrel());
        list.add(x -> x.check(0, 0, 0, 5));
        list.add(x -> one(x.row(0, 0, 1, 0)));
        list.add(x -> one(x.lack(0, 0, ticks - 1)));
        list.add(x -> x.count(3));
        list.add(x -> x.inside(ticks, 0, true));
        list.add(x -> one(x.start(1, 7, 7)));
        list.add(x -> x.inside(0, 2, false));
        list.add(x -> one(x.day(ticks)));
        list.add(x -> x.inside(ticks, 2, true));
        list.add(x -> x.door(0, 0, 0, 1));
        list.add(x -> x.look(0, 4));
        list.add(x -> x.check(0, 0, 0, 0));
        list.add(x -> x.inside(ticks, 2, true));
        return list;
    }

    private static void ask(StringBuilder s, DoorBench x, List<Asking> list) {
        for (Asking asking : list) {
            s.append(told(() -> asking.answer(x))).append(' ');
        }
    }

    /** All that can be asked of a bench, and what it answers when it goes on, as one text. */
    private static String shown(Making making, int ticks, int doors) {
        StringBuilder s = new StringBuilder();
        List<Asking> list = questions(ticks, doors);
        for (int from = 0; from < list.size(); from += QUESTIONS_A_BENCH) {
            int to = Math.min(list.size(), from + QUESTIONS_A_BENCH);
            ask(s, making.bench(), list.subList(from, to));
        }
        ask(s, making.bench(), goingOn(ticks, doors));
        return s.toString();
    }

    private static DoorBench with(Kind kind, Asking call) {
        DoorBench x = kind.making.bench();
        told(() -> call.answer(x));
        return x;
    }

    private static void dueUnchanged(Kind kind, String name, Asking call) {
        String after = shown(() -> with(kind, call), kind.ticks, kind.doors);
        due(kind.name + ": whether all calls answer behind " + name + " as before", after.equals(kind.before), true);
    }

    private static void refused(Kind kind, String name, String want, Asking call) {
        DoorBench x = kind.making.bench();
        dueText(kind.name + ": " + name, told(() -> call.answer(x)), want);
        dueUnchanged(kind, name, call);
    }

    private static void refusedFalse(Kind kind, String name, Asking call) {
        refused(kind, name, "0", call);
    }

    private static void refusedNone(Kind kind, String name, Asking call) {
        refused(kind, name, "-1", call);
    }

    private static void refusedIndex(Kind kind, String name, Asking call) {
        refused(kind, name, "IndexOutOfBoundsException", call);
    }

    private static void refusedElement(Kind kind, String name, Asking call) {
        refused(kind, name, "NoSuchElementException", call);
    }

    // ---- the calls that are refused

    private static void day(Kind kind) {
        for (int n : outside(1, 60)) {
            refusedFalse(kind, "day(" + n + ")", x -> one(x.day(n)));
        }
    }

    private static void door(Kind kind) {
        for (int n : outside(0, 2)) {
            refusedNone(kind, "door of KIND " + n, x -> x.door(n, 5, 5, 20));
        }
        for (int n : outside(0, 5)) {
            refusedNone(kind, "door with MISS " + n, x -> x.door(0, n, 5, 20));
            refusedNone(kind, "door with DOUBLE " + n, x -> x.door(1, 5, n, 20));
        }
        for (int n : outside(0, 20)) {
            refusedNone(kind, "door with CAP " + n, x -> x.door(2, 5, 5, n));
        }
        if (kind.doors == 6) {
            for (int way = 0; way <= 2; way++) {
                int k = way;
                refusedNone(kind, "a seventh door", x -> x.door(k, 5, 5, 20));
            }
        }
    }

    private static void row(Kind kind) {
        int last = kind.ticks - 1;
        for (int n : outside(0, kind.doors - 1)) {
            refusedFalse(kind, "row of DOOR " + n, x -> one(x.row(n, 0, 20, 20)));
            refusedFalse(kind, "row of DOOR " + n, x -> one(x.row(n, last, 0, 0)));
        }
        for (int n : outside(0, last)) {
            refusedFalse(kind, "row of TICK " + n, x -> one(x.row(0, n, 20, 20)));
            refusedFalse(kind, "row of TICK " + n, x -> one(x.row(kind.doors - 1, n, 0, 0)));
        }
        for (int n : outside(0, 20)) {
            refusedFalse(kind, "row with IN " + n, x -> one(x.row(0, 0, n, 20)));
            refusedFalse(kind, "row with OUT " + n, x -> one(x.row(0, last, 20, n)));
            refusedFalse(kind, "row with both " + n, x -> one(x.row(0, 0, n, n)));
        }
    }

    private static void lack(Kind kind) {
        int last = kind.ticks - 1;
        for (int n : outside(0, kind.doors - 1)) {
            refusedFalse(kind, "lack of DOOR " + n, x -> one(x.lack(n, 0, last)));
        }
        for (int n : outside(0, last)) {
            refusedFalse(kind, "lack from TICK " + n, x -> one(x.lack(0, n, last)));
            refusedFalse(kind, "lack to TICK " + n, x -> one(x.lack(0, 0, n)));
            refusedFalse(kind, "lack at TICK " + n, x -> one(x.lack(0, n, n)));
        }
        if (last > 0) {
            refusedFalse(kind, "lack from the last to the first", x -> one(x.lack(0, last, 0)));
            refusedFalse(kind, "lack from 1 to 0", x -> one(x.lack(0, 1, 0)));
            refusedFalse(kind, "lack from the last to the one ahead", x -> one(x.lack(0, last, last - 1)));
        }
    }

    private static void start(Kind kind) {
        for (int n : outside(0, 1)) {
            refusedFalse(kind, "start of HALL " + n, x -> one(x.start(n, 6, 6)));
        }
        for (int hall = 0; hall <= 1; hall++) {
            int h = hall;
            for (int n : outside(0, 9999)) {
                refusedFalse(kind, "start from " + n, x -> one(x.start(h, n, 9999)));
                refusedFalse(kind, "start to " + n, x -> one(x.start(h, 0, n)));
                refusedFalse(kind, "start at " + n, x -> one(x.start(h, n, n)));
            }
            refusedFalse(kind, "start 7 .. 6", x -> one(x.start(h, 7, 6)));
            refusedFalse(kind, "start 9999 .. 0", x -> one(x.start(h, 9999, 0)));
        }
    }

    private static void check(Kind kind) {
        for (int n : outside(0, kind.ticks)) {
            refusedNone(kind, "check at TIME " + n, x -> x.check(n, 0, 9999, 9999));
        }
        for (int n : outside(0, 2)) {
            refusedNone(kind, "check of what " + n, x -> x.check(0, n, 9999, 9999));
        }
        for (int n : outside(0, 9999)) {
            refusedNone(kind, "check from " + n, x -> x.check(0, 0, n, 9999));
            refusedNone(kind, "check to " + n, x -> x.check(kind.ticks, 1, 0, n));
            refusedNone(kind, "check of " + n, x -> x.check(0, 2, n, n));
        }
        refusedNone(kind, "check 7 .. 6", x -> x.check(0, 2, 7, 6));
        refusedNone(kind, "check 9999 .. 0", x -> x.check(0, 0, 9999, 0));
        if (kind.checks == 20) {
            for (int what = 0; what <= 2; what++) {
                int w = what;
                refusedNone(kind, "one check more", x -> x.check(0, w, 9999, 9999));
                refusedNone(kind, "one check more", x -> x.check(kind.ticks, w, 0, 0));
            }
        }
    }

    private static void uncheck(Kind kind) {
        if (kind.checks == 0) {
            refusedNone(kind, "uncheck", x -> x.uncheck());
        } else {
            DoorBench x = kind.making.bench();
            for (int left = kind.checks - 1; left >= 0; left--) {
                due("uncheck", x.uncheck(), left);
            }
            due("uncheck of none", x.uncheck(), NONE);
            due("CHECKS", x.count(2), 0);
        }
    }

    private static void inside(Kind kind) {
        for (int n : outside(0, kind.ticks)) {
            refusedIndex(kind, "inside at TIME " + n, x -> x.inside(n, 0, true));
        }
        for (int n : outside(0, 2)) {
            refusedIndex(kind, "inside of what " + n, x -> x.inside(0, n, false));
        }
        if (!kind.fits) {
            refusedElement(kind, "inside without a TRUTH", x -> x.inside(0, 0, false));
            refusedElement(kind, "inside without a TRUTH", x -> x.inside(kind.ticks, 2, true));
        }
    }

    private static void couldAndSurely(Kind kind) {
        for (int n : outside(0, 99999)) {
            refusedNone(kind, "could(" + n + ")", x -> x.could(n));
            refusedNone(kind, "surely(" + n + ")", x -> x.surely(n));
        }
        if (!kind.fits) {
            refusedNone(kind, "could without a TRUTH", x -> x.could(0));
            refusedNone(kind, "surely without a TRUTH", x -> x.surely(0));
        }
    }

    private static void through(Kind kind) {
        for (int n : outside(0, kind.doors - 1)) {
            refusedIndex(kind, "through DOOR " + n, x -> x.through(n, 0, true));
        }
        for (int n : outside(0, kind.ticks - 1)) {
            refusedIndex(kind, "through at TICK " + n, x -> x.through(0, n, false));
        }
        if (!kind.fits && kind.doors > 0) {
            refusedElement(kind, "through without a TRUTH", x -> x.through(0, 0, false));
            refusedElement(kind, "through without a TRUTH", x -> x.through(0, kind.ticks - 1, true));
        }
    }

    private static void look(Kind kind) {
        for (int n : outside(0, kind.doors - 1)) {
            refusedIndex(kind, "look at DOOR " + n, x -> x.look(n, 0));
        }
        for (int n : outside(0, 6)) {
            String want = kind.doors > 0 ? "NoSuchElementException" : "IndexOutOfBoundsException";
            refused(kind, "look at what " + n, want, x -> x.look(0, n));
        }
    }

    private static void count(Kind kind) {
        for (int n : outside(0, 3)) {
            refusedNone(kind, "count(" + n + ")", x -> x.count(n));
        }
    }

    private static void asking(Kind kind) {
        dueUnchanged(kind, "fits", x -> x.fits());
        dueUnchanged(kind, "worse", x -> x.worse());
        dueUnchanged(kind, "quarrel", x -> x.quarrel());
        dueUnchanged(kind, "could", x -> x.could(0));
        dueUnchanged(kind, "surely", x -> x.surely(0));
        dueUnchanged(kind, "inside", x -> x.inside(0, 2, true));
        dueUnchanged(kind, "inside", x -> x.inside(kind.ticks, 0, false));
        dueUnchanged(kind, "through", x -> x.through(0, 0, true));
        dueUnchanged(kind, "look", x -> x.look(0, 5));
        dueUnchanged(kind, "count", x -> x.count(3));
    }

    // ---- the benches

    private static DoorBench small() {
        DoorBench x = new DoorBench();
        x.day(3);
        x.door(0, 1, 2, 3);
        x.door(2, 0, 0, 2);
        x.start(0, 2, 4);
        x.start(1, 1, 1);
        x.row(0, 0, 4, 1);
        x.row(1, 2, 2, 0);
        x.check(2, 2, 3, 9);
        return x;
    }

    private static DoorBench withoutTruth() {
        DoorBench x = small();
        x.row(0, 1, 0, 20);
        x.row(0, 2, 0, 3);
        return x;
    }

    private static DoorBench notEvenWorse() {
        DoorBench x = small();
        x.check(0, 1, 9999, 9999);
        return x;
    }

    private static DoorBench full(int ticks) {
        DoorBench x = new DoorBench();
        x.day(ticks);
        for (int door = 0; door < 6; door++) {
            x.door(door % 3, door % 6, 5 - door, 3 + door);
            x.row(door, door % ticks, 7 + door, 9 - door);
            x.row(door, ticks - 1, 20 - door, door);
        }
        x.start(0, 30, 60);
        x.start(1, 20, 90);
        for (int check = 0; check < 20; check++) {
            x.check(check * ticks / 20, check % 3, check % 3 == 2 ? 10 : 1, 400 - check);
        }
        return x;
    }

    private static void makeKinds() {
        KINDS.add(new Kind("a new bench", DoorBench::new));
        KINDS.add(new Kind("a small bench", RefusedTest::small));
        KINDS.add(new Kind("six DOORS and twenty CHECKS", () -> full(4)));
        KINDS.add(new Kind("sixty TICKS", () -> full(60)));
        KINDS.add(new Kind("no TRUTH", RefusedTest::withoutTruth));
        KINDS.add(new Kind("no TRUTH, not even worse", RefusedTest::notEvenWorse));
    }

    private static void kindsAreAsMeant() {
        int[][] want = {{1, 0, 0, 1, 0}, {3, 2, 1, 1, 0}, {4, 6, 20, 1, 0}, {60, 6, 20, 1, 0}, {3, 2, 1, 0, 4},
            {3, 2, 2, 0, NONE}};
        for (int k = 0; k < KINDS.size(); k++) {
            Kind kind = KINDS.get(k);
            due(kind.name + " T", kind.ticks, want[k][0]);
            due(kind.name + " DOORS", kind.doors, want[k][1]);
            due(kind.name + " CHECKS", kind.checks, want[k][2]);
            due(kind.name + " fits", kind.making.bench().fits(), want[k][3]);
            due(kind.name + " worse", kind.making.bench().worse(), want[k][4]);
        }
    }

    private interface Calls {
        void on(Kind kind);
    }

    private static void onEach(String name, Calls calls) {
        test(name, () -> KINDS.forEach(calls::on));
    }

    public static void main(String[] args) {
        makeKinds();
        test("the benches", RefusedTest::kindsAreAsMeant);
        onEach("2: a refused day changes nothing", RefusedTest::day);
        onEach("3: a refused door changes nothing", RefusedTest::door);
        onEach("4: a refused row changes nothing", RefusedTest::row);
        onEach("5: a refused lack changes nothing", RefusedTest::lack);
        onEach("6: a refused start changes nothing", RefusedTest::start);
        onEach("7: a refused check changes nothing", RefusedTest::check);
        onEach("8: a refused uncheck changes nothing", RefusedTest::uncheck);
        onEach("10: an inside that throws changes nothing", RefusedTest::inside);
        onEach("11, 12: a refused could or surely changes nothing", RefusedTest::couldAndSurely);
        onEach("13: a through that throws changes nothing", RefusedTest::through);
        onEach("16: a look that throws changes nothing", RefusedTest::look);
        onEach("17: a refused count changes nothing", RefusedTest::count);
        onEach("9 to 17: to ask changes nothing", RefusedTest::asking);
        tellAndExit();
    }
}
