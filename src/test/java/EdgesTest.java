import java.util.function.IntConsumer;

/**
 * One test for each sentence of the document that names a boundary case; each is named by its
 * promise ('Terms' where the sentence stands there) and the sentence. RefusedTest looks at the
 * other half of the wrong inputs: that a refused call changes nothing.
 */
public final class EdgesTest extends Dues {
    private static final int DOORS = 6;
    private static final int CHECKS = 20;
    private static final int TICKS = 60;

    // ---- benches and helpers

    private static DoorBench dayOf(int ticks) {
        DoorBench x = new DoorBench();
        x.day(ticks);
        return x;
    }

    /** One DOOR from outside to A, one TICK, and more than enough people for all to go out. */
    private static DoorBench oneDoor(int miss, int doubled, int cap) {
        DoorBench x = new DoorBench();
        x.door(0, miss, doubled, cap);
        x.start(0, 100, 100);
        return x;
    }

    private static DoorBench withDoors(int ticks, int doors) {
        DoorBench x = dayOf(ticks);
        for (int door = 0; door < doors; door++) {
            x.door(door % 3, 0, 0, 1);
        }
        return x;
    }

    private static DoorBench withChecks(int checks) {
        DoorBench x = new DoorBench();
        for (int number = 0; number < checks; number++) {
            x.check(0, 0, 0, 9999);
        }
        return x;
    }

    private static DoorBench withoutTruth() {
        DoorBench x = withDoors(3, 2);
        x.check(1, 2, 9999, 9999);
        return x;
    }

    /** Takes each number from low to high on a bench of its own, and refuses those outside. */
    private static void dueTaken(int low, int high, Making making, Giving giving, int refused) {
        for (int number = low; number <= high; number++) {
            boolean taken = giving.answer(making.bench(), number) != refused;
            due("taking " + number, taken, true);
        }
        dueRefused(low, high, making, giving, refused);
    }

    private static void dueRefused(int low, int high, Making making, Giving giving, int refused) {
        for (int number : outside(low, high)) {
            due("with " + number + ", outside " + low + " .. " + high, giving.answer(making.bench(), number), refused);
        }
    }

    private static void dueIndexOutside(int low, int high, Making making, Giving giving) {
        for (int number : outside(low, high)) {
            dueIndex("with " + number, () -> giving.answer(making.bench(), number));
        }
    }

    private static void eachTicks(IntConsumer body) {
        for (int ticks : new int[] {1, 2, 3, 31, 59, TICKS}) {
            body.accept(ticks);
        }
    }

    // ---- Promise 1: A new object

    private static void newHasNoDoors() {
        due("count(1)", new DoorBench().count(1), 0);
        due("row", new DoorBench().row(0, 0, 0, 0), false);
        due("lack", new DoorBench().lack(0, 0, 0), false);
        dueIndex("through", () -> new DoorBench().through(0, 0, false));
        dueIndex("look", () -> new DoorBench().look(0, 0));
        due("the first door", new DoorBench().door(0, 0, 0, 0), 0);
    }

    private static void newHasOneTick() {
        due("count(0)", new DoorBench().count(0), 1);
        due("TIME 1", new DoorBench().inside(1, 2, true), 0);
        dueIndex("TIME 2", () -> new DoorBench().inside(2, 2, true));
        due("a CHECK at TIME 1", new DoorBench().check(1, 0, 0, 0), 0);
        due("a CHECK at TIME 2", new DoorBench().check(2, 0, 0, 0), NONE);
        DoorBench x = oneDoor(0, 0, 2);
        due("a ROW of TICK 1", x.row(0, 1, 0, 0), false);
        due("a ROW of TICK 0", x.row(0, 0, 0, 0), true);
    }

    private static void newStartsEmpty() {
        for (int time = 0; time <= 1; time++) {
            for (int what = 0; what <= 2; what++) {
                dueSpan("inside", new DoorBench(), time, what, 0, 0);
            }
        }
        due("could(0)", new DoorBench().could(0), NONE);
        due("surely(0)", new DoorBench().surely(0), NONE);
        for (int hall = 0; hall <= 1; hall++) {
            DoorBench x = new DoorBench();
            x.door(hall, 0, 0, 0);
            x.row(0, 0, 0, 1);
            due("one goes out where none is", x.fits(), 0);
        }
    }

    private static void newHasNoChecks() {
        due("count(2)", new DoorBench().count(2), 0);
        due("uncheck", new DoorBench().uncheck(), NONE);
        due("the first check", new DoorBench().check(0, 0, 0, 0), 0);
    }

    private static void newHasATruth() {
        due("fits", new DoorBench().fits(), 1);
        due("worse", new DoorBench().worse(), 0);
        due("quarrel", new DoorBench().quarrel(), NONE);
        due("told ROWS", new DoorBench().count(3), 0);
        due("NONE", DoorBench.NONE, -1);
    }

    // ---- Promise 2: day

    private static void dayTakesOneToSixty() {
        dueTaken(1, TICKS, DoorBench::new, (x, n) -> one(x.day(n)), 0);
        for (int ticks = 1; ticks <= TICKS; ticks++) {
            due("T", dayOf(ticks).count(0), ticks);
        }
    }

    private static DoorBench toldAll(int ticks) {
        DoorBench x = dayOf(ticks);
        x.door(0, 0, 0, 20);
        for (int tick = 0; tick < ticks; tick++) {
            x.row(0, tick, 7, 3);
        }
        return x;
    }

    private static void dueAllLack(DoorBench x, int ticks) {
        due("told ROWS without a DOOR", x.count(3), 0);
        x.door(0, 0, 0, 4);
        x.start(0, 9999, 9999);
        due("told ROWS", x.count(3), 0);
        due("TICKS that aren't LACKING", x.look(0, 4), 0);
        due("told IN", x.look(0, 5), 0);
        due("told OUT", x.look(0, 6), 0);
        dueThrough("the first TICK", x, 0, 0, -4, 4);
        dueThrough("the last TICK", x, 0, ticks - 1, -4, 4);
    }

    private static void dayMakesAllRowsLack() {
        eachTicks(ticks -> {
            DoorBench same = toldAll(ticks);
            same.day(ticks);
            dueAllLack(same, ticks);
            DoorBench shorter = toldAll(ticks);
            shorter.day(1);
            dueAllLack(shorter, 1);
            DoorBench longer = toldAll(ticks);
            longer.day(1);
            longer.day(TICKS);
            dueAllLack(longer, TICKS);
        });
    }

    private static void dayHasNoDoors() {
        DoorBench x = withDoors(2, DOORS);
        x.day(2);
        due("DOORS", x.count(1), 0);
        due("row", x.row(0, 0, 0, 0), false);
        dueIndex("look", () -> x.look(0, 0));
        dueIndex("through", () -> x.through(0, 0, true));
        dueSpan("nobody can come in", x, 2, 2, 0, 0);
        for (int door = 0; door < DOORS; door++) {
            due("a DOOR's number", x.door(0, 0, 0, 0), door);
        }
        due("a seventh", x.door(0, 0, 0, 0), NONE);
    }

    private static void dayHasNoChecks() {
        DoorBench x = withChecks(CHECKS - 1);
        x.check(0, 0, 5, 5);
        due("the last CHECK can't hold", x.fits(), 0);
        x.day(1);
        due("CHECKS", x.count(2), 0);
        due("uncheck", x.uncheck(), NONE);
        due("fits", x.fits(), 1);
        for (int check = 0; check < CHECKS; check++) {
            due("a CHECK's number", x.check(0, 0, 0, 0), check);
        }
        due("one more", x.check(0, 0, 0, 0), NONE);
    }

    private static void dayHasStartNone() {
        DoorBench x = dayOf(5);
        x.start(0, 3, 9);
        x.start(1, 9999, 9999);
        x.day(5);
        for (int what = 0; what <= 2; what++) {
            dueSpan("TIME 0", x, 0, what, 0, 0);
            dueSpan("TIME T", x, 5, what, 0, 0);
        }
    }

    // ---- Promise 3: door

    private static void doorKinds() {
        dueTaken(0, 2, DoorBench::new, (x, n) -> x.door(n, 1, 1, 1), NONE);
        for (int kind = 0; kind <= 2; kind++) {
            DoorBench x = new DoorBench();
            x.door(kind, 0, 0, 0);
            x.start(0, 10, 10);
            x.start(1, 10, 10);
            x.row(0, 0, 3, 1);
            due("KIND", x.look(0, 0), kind);
            dueSpan("A", x, 1, 0, new int[] {12, 10, 8}[kind], new int[] {12, 10, 8}[kind]);
            dueSpan("B", x, 1, 1, new int[] {10, 12, 12}[kind], new int[] {10, 12, 12}[kind]);
            dueSpan("both", x, 1, 2, new int[] {22, 22, 20}[kind], new int[] {22, 22, 20}[kind]);
        }
    }

    private static void doorMiss() {
        dueTaken(0, 5, DoorBench::new, (x, n) -> x.door(0, n, 0, 0), NONE);
        for (int miss = 0; miss <= 5; miss++) {
            DoorBench x = oneDoor(miss, 0, 0);
            x.row(0, 0, 20, 20);
            due("MISS", x.look(0, 1), miss);
            due("DOUBLE", x.look(0, 2), 0);
            dueThrough("told 20 and 20", x, 0, 0, -miss, miss);
        }
    }

    private static void doorDouble() {
        dueTaken(0, 5, DoorBench::new, (x, n) -> x.door(0, 0, n, 0), NONE);
        for (int doubled = 0; doubled <= 5; doubled++) {
            DoorBench x = oneDoor(0, doubled, 0);
            x.row(0, 0, 20, 20);
            due("MISS", x.look(0, 1), 0);
            due("DOUBLE", x.look(0, 2), doubled);
            dueThrough("told 20 and 20", x, 0, 0, -doubled, doubled);
        }
    }

    private static void doorCap() {
        dueTaken(0, 20, DoorBench::new, (x, n) -> x.door(0, 0, 0, n), NONE);
        for (int cap = 0; cap <= 20; cap++) {
            DoorBench x = oneDoor(0, 0, cap);
            due("CAP", x.look(0, 3), cap);
            dueSpan("a LACKING one", x, 1, 0, 100 - cap, 100 + cap);
        }
    }

    private static void doorAtMostSix() {
        for (int kind = 0; kind <= 2; kind++) {
            DoorBench x = new DoorBench();
            for (int door = 0; door < DOORS; door++) {
                due("its number", x.door(kind, 5, 5, 20), door);
                due("DOORS", x.count(1), door + 1);
            }
            due("the seventh", x.door(kind, 5, 5, 20), NONE);
            due("the seventh again", x.door(0, 0, 0, 0), NONE);
            due("one that can't be, too", x.door(3, 0, 0, 0), NONE);
            due("DOORS", x.count(1), DOORS);
        }
    }

    private static void doorRefusedTakesNoNumber() {
        DoorBench x = new DoorBench();
        for (int door = 0; door < DOORS; door++) {
            due("one that can't be", x.door(-1, 0, 0, 0), NONE);
            due("one that can't be", x.door(0, 6, 0, 0), NONE);
            due("one that can't be", x.door(0, 0, 6, 0), NONE);
            due("one that can't be", x.door(0, 0, 0, 21), NONE);
            due("one that can", x.door(0, 0, 0, 0), door);
        }
    }

    private static void doorsAlikeAreTwo() {
        DoorBench x = new DoorBench();
        for (int doors = 1; doors <= DOORS; doors++) {
            x.door(1, 0, 0, 20);
            dueSpan("B", x, 1, 1, 0, 20 * doors);
        }
    }

    // ---- Promise 4: row

    private static void rowDoors() {
        for (int doors = 1; doors <= DOORS; doors++) {
            int count = doors;
            dueTaken(0, doors - 1, () -> withDoors(2, count), (x, n) -> one(x.row(n, 1, 1, 1)), 0);
        }
        dueRefused(0, -1, () -> withDoors(2, 0), (x, n) -> one(x.row(n, 0, 0, 0)), 0);
    }

    private static void rowTicks() {
        eachTicks(ticks -> dueTaken(0, ticks - 1, () -> withDoors(ticks, DOORS),
                (x, n) -> one(x.row(3, n, 1, 1)), 0));
    }

    private static void rowIn() {
        dueTaken(0, 20, () -> withDoors(2, 2), (x, n) -> one(x.row(1, 1, n, 0)), 0);
        for (int in = 0; in <= 20; in++) {
            DoorBench x = oneDoor(0, 0, 0);
            x.row(0, 0, in, 0);
            due("told IN", x.look(0, 5), in);
            dueThrough("IN", x, 0, 0, in, in);
        }
    }

    private static void rowOut() {
        dueTaken(0, 20, () -> withDoors(2, 2), (x, n) -> one(x.row(1, 1, 0, n)), 0);
        for (int out = 0; out <= 20; out++) {
            DoorBench x = oneDoor(0, 0, 0);
            x.row(0, 0, 0, out);
            due("told OUT", x.look(0, 6), out);
            dueThrough("OUT", x, 0, 0, -out, -out);
        }
    }

    private static void rowInPlaceOfWhatWas() {
        DoorBench x = oneDoor(0, 0, 9);
        dueThrough("it LACKS", x, 0, 0, -9, 9);
        x.row(0, 0, 20, 20);
        dueThrough("it is told", x, 0, 0, 0, 0);
        x.row(0, 0, 0, 20);
        dueThrough("it is told anew", x, 0, 0, -20, -20);
        due("told IN", x.look(0, 5), 0);
        due("told OUT", x.look(0, 6), 20);
        x.row(0, 0, 0, 0);
        dueThrough("it is told as none", x, 0, 0, 0, 0);
        due("told OUT", x.look(0, 6), 0);
        due("TICKS that aren't LACKING", x.look(0, 4), 1);
        due("told ROWS", x.count(3), 1);
    }

    private static void rowOfOneDoorAndTickAlone() {
        for (int door = 0; door < DOORS; door++) {
            for (int tick : new int[] {0, 1, TICKS - 2, TICKS - 1}) {
                DoorBench x = withDoors(TICKS, DOORS);
                x.row(door, tick, 1, 1);
                for (int other = 0; other < DOORS; other++) {
                    due("TICKS that aren't LACKING", x.look(other, 4), other == door ? 1 : 0);
                    due("told IN and OUT", x.look(other, 5) + x.look(other, 6), other == door ? 2 : 0);
                }
                dueThrough("its TICK", x, door, tick, 0, 0);
                dueThrough("another TICK", x, door, 30, -1, 1);
            }
        }
    }

    // ---- Promise 5: lack

    private static DoorBench toldDoors(int ticks, int doors) {
        DoorBench x = withDoors(ticks, doors);
        x.start(0, 9999, 9999);
        x.start(1, 9999, 9999);
        for (int door = 0; door < doors; door++) {
            for (int tick = 0; tick < ticks; tick++) {
                x.row(door, tick, 2, 2);
            }
        }
        return x;
    }

    private static void lackDoors() {
        for (int doors = 1; doors <= DOORS; doors++) {
            int count = doors;
            dueTaken(0, doors - 1, () -> toldDoors(2, count), (x, n) -> one(x.lack(n, 0, 1)), 0);
        }
        dueRefused(0, -1, () -> withDoors(2, 0), (x, n) -> one(x.lack(n, 0, 0)), 0);
    }

    private static void lackFrom() {
        eachTicks(ticks -> dueTaken(0, ticks - 1, () -> toldDoors(ticks, 2),
                (x, n) -> one(x.lack(1, n, ticks - 1)), 0));
    }

    private static void lackTo() {
        eachTicks(ticks -> dueTaken(0, ticks - 1, () -> toldDoors(ticks, 2),
                (x, n) -> one(x.lack(1, 0, n)), 0));
    }

    private static void lackFromNotBehindTo() {
        for (int from = 0; from < 6; from++) {
            for (int to = 0; to < 6; to++) {
                due("lack " + from + " .. " + to, toldDoors(6, 1).lack(0, from, to), from <= to);
            }
        }
        due("the last before the first", toldDoors(TICKS, 1).lack(0, TICKS - 1, 0), false);
        due("the last before the one ahead", toldDoors(TICKS, 1).lack(0, TICKS - 1, TICKS - 2), false);
        due("both outside", toldDoors(6, 1).lack(0, 6, 6), false);
        due("both outside", toldDoors(6, 1).lack(0, -1, -1), false);
        due("both outside", toldDoors(6, 1).lack(0, -1, 6), false);
        due("the greatest and the least", toldDoors(6, 1).lack(0, GREATEST_INT, LEAST_INT), false);
        due("the least and the greatest", toldDoors(6, 1).lack(0, LEAST_INT, GREATEST_INT), false);
    }

    private static void lackFromThatTickToThisOneToo() {
        for (int from = 0; from < 5; from++) {
            for (int to = from; to < 5; to++) {
                DoorBench x = toldDoors(5, 3);
                x.lack(1, from, to);
                for (int tick = 0; tick < 5; tick++) {
                    int slack = from <= tick && tick <= to ? 1 : 0;
                    dueThrough("lack " + from + " .. " + to + ": TICK " + tick, x, 1, tick, -slack, slack);
                }
                int left = 5 - (to - from + 1);
                due("TICKS that aren't LACKING", x.look(1, 4), left);
                due("told IN", x.look(1, 5), 2 * left);
                due("told OUT", x.look(1, 6), 2 * left);
                due("told ROWS", x.count(3), 10 + left);
                due("the DOOR ahead", x.look(0, 4), 5);
                due("the DOOR behind", x.look(2, 4), 5);
            }
        }
    }

    private static void lackWhatLacksAlready() {
        DoorBench x = withDoors(TICKS, DOORS);
        due("all of them", x.lack(5, 0, TICKS - 1), true);
        due("told ROWS", x.count(3), 0);
        x.row(5, TICKS - 1, 1, 1);
        due("one is told", x.lack(5, 0, TICKS - 1), true);
        due("told ROWS", x.count(3), 0);
        due("again", x.lack(5, 0, TICKS - 1), true);
    }

    // ---- Promise 6: start

    private static void startHalls() {
        dueTaken(0, 1, DoorBench::new, (x, n) -> one(x.start(n, 0, 0)), 0);
        for (int hall = 0; hall <= 1; hall++) {
            DoorBench x = new DoorBench();
            x.start(hall, 2, 5);
            dueSpan("this HALL", x, 0, hall, 2, 5);
            dueSpan("the other one", x, 0, 1 - hall, 0, 0);
            dueSpan("both", x, 0, 2, 2, 5);
        }
    }

    private static void startSpans() {
        int[][] good = {{0, 0}, {0, 1}, {1, 1}, {0, 9999}, {9998, 9999}, {9999, 9999}, {4567, 4568}};
        int[][] bad = {{-1, -1}, {-1, 0}, {-1, 9999}, {1, 0}, {9999, 9998}, {9999, 0}, {0, 10000}, {9999, 10000},
            {10000, 10000}, {10000, 9999}, {4568, 4567}, {LEAST_INT, GREATEST_INT}, {GREATEST_INT, LEAST_INT},
            {LEAST_INT, LEAST_INT}, {GREATEST_INT, GREATEST_INT}, {0, GREATEST_INT}, {LEAST_INT, 0},
            {GREATEST_INT, 9999}, {0, LEAST_INT}};
        for (int hall = 0; hall <= 1; hall++) {
            for (int[] span : good) {
                DoorBench x = new DoorBench();
                due("start " + span[0] + " .. " + span[1], x.start(hall, span[0], span[1]), true);
                dueSpan("START", x, 0, hall, span[0], span[1]);
            }
            for (int[] span : bad) {
                due("start " + span[0] + " .. " + span[1], new DoorBench().start(hall, span[0], span[1]), false);
            }
        }
    }

    private static void startInPlaceOfWhatWas() {
        for (int hall = 0; hall <= 1; hall++) {
            DoorBench x = new DoorBench();
            x.start(hall, 3, 4);
            x.start(hall, 9999, 9999);
            dueSpan("anew", x, 0, hall, 9999, 9999);
            x.start(hall, 0, 0);
            dueSpan("none", x, 0, hall, 0, 0);
        }
    }

    // ---- Promise 7: check

    private static void checkTimes() {
        eachTicks(ticks -> dueTaken(0, ticks, () -> dayOf(ticks), (x, n) -> x.check(n, 2, 0, 0), NONE));
    }

    private static void checkWhats() {
        dueTaken(0, 2, DoorBench::new, (x, n) -> x.check(0, n, 0, 0), NONE);
        for (int what = 0; what <= 2; what++) {
            DoorBench x = new DoorBench();
            x.start(0, 0, 50);
            x.start(1, 0, 50);
            x.check(1, what, 7, 9);
            dueSpan("A", x, 0, 0, what == 0 ? 7 : 0, new int[] {9, 50, 9}[what]);
            dueSpan("B", x, 0, 1, what == 1 ? 7 : 0, new int[] {50, 9, 9}[what]);
            dueSpan("both", x, 0, 2, 7, new int[] {59, 59, 9}[what]);
        }
    }

    private static void checkSpans() {
        int[][] good = {{0, 0}, {0, 1}, {1, 1}, {0, 9999}, {9998, 9999}, {9999, 9999}, {4567, 4568}};
        int[][] bad = {{-1, -1}, {-1, 0}, {-1, 9999}, {1, 0}, {9999, 9998}, {9999, 0}, {0, 10000}, {9999, 10000},
            {10000, 10000}, {10000, 9999}, {4568, 4567}, {LEAST_INT, GREATEST_INT}, {GREATEST_INT, LEAST_INT},
            {LEAST_INT, LEAST_INT}, {GREATEST_INT, GREATEST_INT}, {0, GREATEST_INT}, {LEAST_INT, 0},
            {GREATEST_INT, 9999}, {0, LEAST_INT}};
        for (int what = 0; what <= 2; what++) {
            for (int[] span : good) {
                DoorBench x = new DoorBench();
                x.start(0, 0, 9999);
                x.start(1, 0, 9999);
                due("check " + span[0] + " .. " + span[1], x.check(0, what, span[0], span[1]), 0);
                dueSpan("within", x, 0, what, span[0], span[1]);
            }
            for (int[] span : bad) {
                DoorBench x = new DoorBench();
                due("check " + span[0] + " .. " + span[1], x.check(0, what, span[0], span[1]), NONE);
                due("CHECKS", x.count(2), 0);
            }
        }
    }

    private static void checkAtMostTwenty() {
        DoorBench x = dayOf(TICKS);
        for (int number = 0; number < CHECKS; number++) {
            due("its number", x.check(3 * number, number % 3, 0, 9999), number);
            due("CHECKS", x.count(2), number + 1);
        }
        for (int what = 0; what <= 2; what++) {
            due("one more", x.check(0, what, 0, 9999), NONE);
        }
        due("one more that can't be, too", x.check(61, 0, 0, 0), NONE);
        due("CHECKS", x.count(2), CHECKS);
        due("room by uncheck", x.uncheck(), CHECKS - 1);
        due("the twentieth", x.check(0, 0, 0, 0), CHECKS - 1);
        due("one more", x.check(0, 0, 0, 0), NONE);
    }

    private static void checkEachOfTwentyHolds() {
        for (int which = 0; which < CHECKS; which++) {
            DoorBench x = new DoorBench();
            x.start(0, 0, 9);
            for (int number = 0; number < CHECKS; number++) {
                x.check(0, 0, number == which ? 4 : 0, number == which ? 5 : 9999);
            }
            dueSpan("CHECK " + which, x, 0, 0, 4, 5);
        }
    }

    private static void checkRefusedTakesNoNumber() {
        DoorBench x = new DoorBench();
        for (int number = 0; number < CHECKS; number++) {
            due("one that can't be", x.check(2, 0, 0, 0), NONE);
            due("one that can't be", x.check(0, 3, 0, 0), NONE);
            due("one that can't be", x.check(0, 0, 1, 0), NONE);
            due("one that can't be", x.check(0, 0, 0, 10000), NONE);
            due("one that can", x.check(0, 0, 0, 0), number);
        }
    }

    private static void checkIsTakenThoughItCannotHold() {
        DoorBench x = new DoorBench();
        due("nobody is there", x.check(0, 0, 9999, 9999), 0);
        due("another one", x.check(0, 0, 0, 0), 1);
        due("fits", x.fits(), 0);
    }

    // ---- Promise 8: uncheck

    private static void uncheckNone() {
        DoorBench x = new DoorBench();
        due("none yet", x.uncheck(), NONE);
        due("again", x.uncheck(), NONE);
        due("CHECKS", x.count(2), 0);
        due("the first", x.check(0, 0, 0, 0), 0);
        due("it is gone", x.uncheck(), 0);
        due("none any more", x.uncheck(), NONE);
        due("the first anew", x.check(0, 0, 0, 0), 0);
    }

    private static void uncheckTwenty() {
        DoorBench x = withChecks(CHECKS);
        for (int left = CHECKS - 1; left >= 0; left--) {
            due("how many there are", x.uncheck(), left);
            due("CHECKS", x.count(2), left);
        }
        due("none", x.uncheck(), NONE);
    }

    private static void uncheckTheLatest() {
        DoorBench x = dayOf(2);
        x.start(0, 0, 100);
        for (int number = 0; number < CHECKS; number++) {
            x.check((number * 2) % 3, 0, number, 100 - number);
        }
        for (int left = CHECKS; left > 0; left--) {
            dueSpan("with " + left, x, 1, 0, left - 1, 101 - left);
            x.uncheck();
        }
        dueSpan("with none", x, 1, 0, 0, 100);
    }

    // ---- Promise 9: fits

    private static void fitsNeverBelowNone() {
        for (int hall = 0; hall <= 1; hall++) {
            for (int there = 0; there <= 6; there++) {
                DoorBench x = new DoorBench();
                x.door(hall, 0, 0, 0);
                x.start(hall, there, there);
                x.start(1 - hall, 9999, 9999);
                x.row(0, 0, 1, 5);
                due(there + " in the HALL, 1 in and 5 out", x.fits(), there >= 4 ? 1 : 0);
            }
        }
        for (int there = 0; there <= 3; there++) {
            DoorBench x = new DoorBench();
            x.door(2, 0, 0, 0);
            x.start(0, there, there);
            x.row(0, 0, 2, 0);
            due(there + " in A, 2 to B", x.fits(), there >= 2 ? 1 : 0);
            x.start(0, 0, 0);
            x.start(1, there, there);
            x.row(0, 0, 0, 2);
            due(there + " in B, 2 to A", x.fits(), there >= 2 ? 1 : 0);
        }
    }

    private static void fitsNotBelowNoneInBetween() {
        for (int tick = 0; tick < 3; tick++) {
            DoorBench x = dayOf(4);
            x.door(0, 0, 0, 0);
            x.row(0, tick, 0, 1);
            x.row(0, tick + 1, 1, 0);
            due("below 0 behind TICK " + tick, x.fits(), 0);
            x.row(0, tick, 1, 0);
            x.row(0, tick + 1, 0, 1);
            due("first in, then out", x.fits(), 1);
        }
    }

    private static void fitsOneTickInAndOut() {
        DoorBench x = new DoorBench();
        x.door(0, 0, 0, 0);
        x.row(0, 0, 20, 20);
        due("as many out as in", x.fits(), 1);
        x.row(0, 0, 19, 20);
        due("one more out", x.fits(), 0);
    }

    private static void fitsCheckEnds() {
        for (int there = 3; there <= 8; there++) {
            for (int what = 0; what <= 2; what++) {
                DoorBench x = new DoorBench();
                x.start(what == 1 ? 1 : 0, there, there);
                x.check(1, what, 4, 7);
                due(there + " within 4 .. 7", x.fits(), there >= 4 && there <= 7 ? 1 : 0);
            }
        }
    }

    private static void fitsStartEnds() {
        for (int seen = 3; seen <= 8; seen++) {
            DoorBench x = new DoorBench();
            x.start(1, 4, 7);
            x.check(0, 1, seen, seen);
            due(seen + " of START 4 .. 7", x.fits(), seen >= 4 && seen <= 7 ? 1 : 0);
        }
    }

    private static void fitsWithoutDoors() {
        DoorBench x = dayOf(TICKS);
        x.start(0, 1, 2);
        due("no CHECK", x.fits(), 1);
        x.check(TICKS, 0, 2, 2);
        due("at the end", x.fits(), 1);
        x.check(0, 0, 1, 1);
        due("nobody can come in", x.fits(), 0);
    }

    // ---- Terms: what truly passed

    private static void passedToldAndDouble() {
        for (int doubled = 0; doubled <= 5; doubled++) {
            for (int told = 0; told <= 20; told++) {
                int least = told > doubled ? told - doubled : 0;
                DoorBench in = oneDoor(0, doubled, 0);
                in.row(0, 0, told, 0);
                dueThrough(told + " in, DOUBLE " + doubled, in, 0, 0, least, told);
                DoorBench out = oneDoor(0, doubled, 0);
                out.row(0, 0, 0, told);
                dueThrough(told + " out, DOUBLE " + doubled, out, 0, 0, -told, -least);
            }
        }
    }

    private static void passedToldAndMiss() {
        for (int miss = 0; miss <= 5; miss++) {
            for (int told = 0; told <= 20; told++) {
                DoorBench in = oneDoor(miss, 0, 0);
                in.row(0, 0, told, 0);
                dueThrough(told + " in, MISS " + miss, in, 0, 0, told - miss, told + miss);
                DoorBench out = oneDoor(miss, 0, 0);
                out.row(0, 0, 0, told);
                dueThrough(told + " out, MISS " + miss, out, 0, 0, -told - miss, miss - told);
            }
        }
    }

    private static void passedLacking() {
        for (int cap : new int[] {0, 1, 19, 20}) {
            for (int kind = 0; kind <= 2; kind++) {
                DoorBench x = new DoorBench();
                x.door(kind, 5, 5, cap);
                x.start(0, 50, 50);
                x.start(1, 50, 50);
                dueThrough("CAP " + cap, x, 0, 0, -cap, cap);
                due("MISS and DOUBLE don't matter", x.worse(), 0);
            }
        }
    }

    // ---- Promise 10: inside

    private static void insideTimes() {
        eachTicks(ticks -> {
            for (int time = 0; time <= ticks; time++) {
                DoorBench x = dayOf(ticks);
                x.start(0, 2, 3);
                dueSpan("TIME " + time, x, time, 0, 2, 3);
            }
            for (int what = 0; what <= 2; what++) {
                int asked = what;
                dueIndexOutside(0, ticks, () -> dayOf(ticks), (x, n) -> x.inside(n, asked, false));
                dueIndexOutside(0, ticks, () -> dayOf(ticks), (x, n) -> x.inside(n, asked, true));
            }
        });
    }

    private static void insideWhats() {
        DoorBench x = new DoorBench();
        x.start(0, 1, 2);
        x.start(1, 10, 30);
        dueSpan("A", x, 0, 0, 1, 2);
        dueSpan("B", x, 0, 1, 10, 30);
        dueSpan("both", x, 0, 2, 11, 32);
        dueIndexOutside(0, 2, DoorBench::new, (y, n) -> y.inside(0, n, false));
        dueIndexOutside(0, 2, DoorBench::new, (y, n) -> y.inside(1, n, true));
    }

    private static void insideWithoutTruth() {
        for (int time = 0; time <= 3; time++) {
            for (int what = 0; what <= 2; what++) {
                int t = time;
                int w = what;
                dueNoElement("the least", () -> withoutTruth().inside(t, w, false));
                dueNoElement("the greatest", () -> withoutTruth().inside(t, w, true));
            }
        }
        DoorBench x = withoutTruth();
        x.uncheck();
        due("a TRUTH anew", x.inside(3, 2, false), 0);
    }

    private static void insideWrongIndexAndWithoutTruth() {
        dueIndexOutside(0, 3, EdgesTest::withoutTruth, (x, n) -> x.inside(n, 0, true));
        dueIndexOutside(0, 2, EdgesTest::withoutTruth, (x, n) -> x.inside(0, n, true));
    }

    private static void insideTimeLiesAheadOfItsTick() {
        for (int tick = 0; tick < 4; tick++) {
            DoorBench x = dayOf(4);
            x.door(1, 0, 0, 0);
            x.row(0, tick, 5, 0);
            for (int time = 0; time <= 4; time++) {
                int there = time > tick ? 5 : 0;
                dueSpan("TICK " + tick + ", TIME " + time, x, time, 1, there, there);
            }
        }
    }

    private static DoorBench fullest() {
        DoorBench x = dayOf(TICKS);
        x.start(0, 9999, 9999);
        x.start(1, 9999, 9999);
        for (int door = 0; door < DOORS; door++) {
            x.door(door % 2, 5, 0, 0);
            for (int tick = 0; tick < TICKS; tick++) {
                x.row(door, tick, 20, 0);
            }
        }
        return x;
    }

    private static void insideHasNoUpperLimit() {
        DoorBench x = fullest();
        dueSpan("A", x, TICKS, 0, 9999 + 3 * TICKS * 15, 9999 + 3 * TICKS * 25);
        dueSpan("B", x, TICKS, 1, 9999 + 3 * TICKS * 15, 9999 + 3 * TICKS * 25);
        dueSpan("both", x, TICKS, 2, 19998 + 6 * TICKS * 15, 28998);
        due("could be above all but the most", x.could(28997), TICKS);
        due("could not be above the most", x.could(28998), NONE);
        due("surely above all but the least", x.surely(25397), TICKS);
        due("not surely above the least", x.surely(25398), NONE);
    }

    private static void insideDownToNone() {
        DoorBench x = new DoorBench();
        x.start(0, 0, 30);
        x.door(0, 0, 0, 20);
        dueSpan("A", x, 1, 0, 0, 50);
        x.row(0, 0, 0, 20);
        dueSpan("A", x, 1, 0, 0, 10);
        dueSpan("START", x, 0, 0, 20, 30);
    }

    // ---- Promise 11: could

    private static DoorBench standing(int inA, int inB) {
        DoorBench x = new DoorBench();
        x.start(0, inA, inA);
        x.start(1, inB, inB);
        return x;
    }

    private static void couldLimits() {
        due("0", standing(1, 0).could(0), 0);
        due("the greatest that is reached", standing(9999, 9999).could(19997), 0);
        due("the greatest limit", standing(9999, 9999).could(99999), NONE);
        dueRefused(0, 99999, () -> standing(5, 5), (x, n) -> x.could(n), NONE);
        dueRefused(0, 99999, DoorBench::new, (x, n) -> x.could(n), NONE);
    }

    private static void couldAboveNotAt() {
        for (int there = 0; there <= 4; there++) {
            for (int limit = 0; limit <= 5; limit++) {
                due(there + " above " + limit, standing(there, 0).could(limit), there > limit ? 0 : NONE);
                due(there + " above " + limit, standing(0, there).could(limit), there > limit ? 0 : NONE);
                due("twice " + there + " above " + limit, standing(there, there).could(limit),
                        2 * there > limit ? 0 : NONE);
            }
        }
    }

    private static void couldFirstTime() {
        DoorBench x = dayOf(TICKS);
        x.door(0, 0, 0, 1);
        for (int limit = 0; limit < TICKS; limit++) {
            due("one a TICK, above " + limit, x.could(limit), limit + 1);
        }
        due("one a TICK, above 60", x.could(TICKS), NONE);
        x.check(TICKS, 0, 0, 0);
        due("all out at the end, above 29", x.could(29), 30);
        due("all out at the end, above 30", x.could(30), NONE);
    }

    private static void couldWithoutTruth() {
        due("it would be above", withoutTruth().could(0), NONE);
        DoorBench x = standing(9999, 9999);
        x.check(1, 0, 0, 9998);
        due("it would be above at TIME 0", x.could(0), NONE);
        due("the greatest limit", x.could(99999), NONE);
    }

    // ---- Promise 12: surely

    private static void surelyLimits() {
        due("0", standing(1, 0).surely(0), 0);
        due("the greatest that is reached", standing(9999, 9999).surely(19997), 0);
        due("the greatest limit", standing(9999, 9999).surely(99999), NONE);
        dueRefused(0, 99999, () -> standing(5, 5), (x, n) -> x.surely(n), NONE);
        dueRefused(0, 99999, DoorBench::new, (x, n) -> x.surely(n), NONE);
    }

    private static void surelyAboveNotAt() {
        for (int there = 0; there <= 4; there++) {
            for (int limit = 0; limit <= 5; limit++) {
                due(there + " above " + limit, standing(there, 0).surely(limit), there > limit ? 0 : NONE);
                due(there + " above " + limit, standing(0, there).surely(limit), there > limit ? 0 : NONE);
                due("twice " + there + " above " + limit, standing(there, there).surely(limit),
                        2 * there > limit ? 0 : NONE);
            }
        }
    }

    private static void surelyInEveryTruth() {
        DoorBench x = new DoorBench();
        x.start(0, 3, 9);
        due("all are above 2", x.surely(2), 0);
        due("one is at 3", x.surely(3), NONE);
        due("some are above 3", x.could(3), 0);
        due("one is above 8", x.could(8), 0);
        due("none is above 9", x.could(9), NONE);
    }

    private static void surelyFirstTime() {
        DoorBench x = dayOf(TICKS);
        x.door(1, 1, 0, 0);
        for (int tick = 0; tick < TICKS; tick++) {
            x.row(0, tick, 2, 0);
        }
        for (int limit = 0; limit < TICKS; limit++) {
            due("1 to 3 a TICK, above " + limit, x.surely(limit), limit + 1);
        }
        due("1 to 3 a TICK, above 60", x.surely(TICKS), NONE);
        due("1 to 3 a TICK, could be above 179", x.could(179), TICKS);
        due("1 to 3 a TICK, could be above 180", x.could(180), NONE);
    }

    private static void surelyWithoutTruth() {
        due("in every one of none", withoutTruth().surely(0), NONE);
        DoorBench x = standing(9999, 9999);
        x.check(1, 0, 0, 9998);
        due("it would be above at TIME 0", x.surely(0), NONE);
        due("the greatest limit", x.surely(99999), NONE);
    }

    // ---- Promise 13: through

    private static void throughDoors() {
        for (int doors = 0; doors <= DOORS; doors++) {
            int count = doors;
            for (int door = 0; door < doors; door++) {
                due("DOOR " + door, withDoors(2, count).through(door, 1, true) > 0, true);
            }
            dueIndexOutside(0, doors - 1, () -> withDoors(2, count), (x, n) -> x.through(n, 0, false));
            dueIndexOutside(0, doors - 1, () -> withDoors(2, count), (x, n) -> x.through(n, 1, true));
        }
    }

    private static void throughTicks() {
        eachTicks(ticks -> {
            for (int tick = 0; tick < ticks; tick++) {
                DoorBench x = withDoors(ticks, 1);
                dueThrough("TICK " + tick, x, 0, tick, tick == 0 ? 0 : -1, 1);
            }
            dueIndexOutside(0, ticks - 1, () -> withDoors(ticks, DOORS), (x, n) -> x.through(0, n, false));
            dueIndexOutside(0, ticks - 1, () -> withDoors(ticks, DOORS), (x, n) -> x.through(5, n, true));
        });
    }

    private static void throughInLessOut() {
        for (int kind = 0; kind <= 2; kind++) {
            DoorBench x = new DoorBench();
            x.door(kind, 5, 5, 0);
            x.start(0, 50, 50);
            x.start(1, 50, 50);
            x.row(0, 0, 20, 0);
            dueThrough("the most in", x, 0, 0, 10, 25);
            x.row(0, 0, 0, 20);
            dueThrough("the most out", x, 0, 0, -25, -10);
            x.row(0, 0, 20, 20);
            dueThrough("the most of both", x, 0, 0, -10, 10);
            x.row(0, 0, 0, 0);
            dueThrough("the least of both", x, 0, 0, -5, 5);
        }
    }

    private static void throughWithoutTruth() {
        for (int door = 0; door <= 1; door++) {
            for (int tick = 0; tick <= 2; tick++) {
                int d = door;
                int t = tick;
                dueNoElement("the least", () -> withoutTruth().through(d, t, false));
                dueNoElement("the greatest", () -> withoutTruth().through(d, t, true));
            }
        }
    }

    private static void throughWrongIndexAndWithoutTruth() {
        dueIndexOutside(0, 1, EdgesTest::withoutTruth, (x, n) -> x.through(n, 0, true));
        dueIndexOutside(0, 2, EdgesTest::withoutTruth, (x, n) -> x.through(0, n, true));
    }

    private static void throughIsHeldByNone() {
        for (int there = 0; there <= 4; there++) {
            for (int kind = 0; kind <= 2; kind++) {
                DoorBench x = new DoorBench();
                x.door(kind, 0, 0, 3);
                x.start(0, there, there);
                x.start(1, there, there);
                int held = Math.min(there, 3);
                dueThrough(there + " in each HALL, KIND " + kind, x, 0, 0, -held, kind == 2 ? held : 3);
            }
        }
    }

    private static void throughIsHeldByLaterChecks() {
        for (int seen = 0; seen <= 8; seen++) {
            DoorBench x = dayOf(4);
            x.door(0, 0, 0, 2);
            x.check(4, 0, seen, seen);
            for (int tick = 0; tick < 4; tick++) {
                int least = Math.max(tick == 0 ? 0 : -2, seen - 6);
                int most = tick == 3 ? Math.min(2, seen) : 2;
                dueThrough(seen + " at the end, TICK " + tick, x, 0, tick, least, most);
            }
        }
    }

    private static void throughIsHeldByOtherDoors() {
        for (int seen = 0; seen <= 5; seen++) {
            DoorBench x = new DoorBench();
            x.door(0, 0, 0, 3);
            x.door(0, 0, 0, 2);
            x.check(1, 0, seen, seen);
            dueThrough(seen + " in A, the wide DOOR", x, 0, 0, seen - 2, Math.min(3, seen + 2));
            dueThrough(seen + " in A, the narrow DOOR", x, 1, 0, Math.max(-2, seen - 3), 2);
        }
        for (int kind = 0; kind <= 2; kind++) {
            DoorBench x = new DoorBench();
            x.start(0, 5, 5);
            x.start(1, 5, 5);
            for (int door = 0; door <= 2; door++) {
                x.door(door, 0, 0, 4);
            }
            x.check(1, 0, 6, 6);
            x.check(1, 1, 8, 8);
            dueThrough("1 more in A, 3 more in B, KIND " + kind, x, kind, 0, new int[] {0, 0, -1}[kind],
                    new int[] {4, 4, 3}[kind]);
        }
    }

    // ---- Promise 14: worse

    /** Told so much by a DOOR with no MISS and no DOUBLE, and seen to be so many. */
    private static DoorBench seen(int in, int out, int start, int seen) {
        DoorBench x = new DoorBench();
        x.door(0, 0, 0, 20);
        x.row(0, 0, in, out);
        x.start(0, start, start);
        x.check(1, 0, seen, seen);
        return x;
    }

    private static void worseMiss() {
        for (int more = 0; more <= 5; more++) {
            due(more + " more came in", seen(20, 0, 0, 20 + more).worse(), more);
            due(more + " more went out", seen(0, 20, 50, 30 - more).worse(), more);
        }
        due("6 more came in", seen(20, 0, 0, 26).worse(), NONE);
        due("6 more went out", seen(0, 20, 50, 24).worse(), NONE);
    }

    private static void worseDouble() {
        // the other way is told as 0, so that MISS adds as much again
        for (int more = 0; more <= 5; more++) {
            due(2 * more + " less came in", seen(20, 0, 0, 20 - 2 * more).worse(), more);
            due(2 * more + " less went out", seen(0, 20, 50, 30 + 2 * more).worse(), more);
        }
        due("11 less came in", seen(20, 0, 0, 9).worse(), NONE);
        due("11 less went out", seen(0, 20, 50, 41).worse(), NONE);
    }

    private static void worseDoubleNotBelowNone() {
        for (int more = 0; more <= 5; more++) {
            due("told 0 in, " + more + " went out", seen(0, 0, 5, 5 - more).worse(), more);
            due("told 1 in, " + more + " went out", seen(1, 0, 5, 5 - more).worse(), more == 0 ? 1 : more);
        }
        due("told 1 in, 6 went out", seen(1, 0, 6, 0).worse(), NONE);
    }

    private static void worseOnTopOfTheGreatest() {
        for (int more = 0; more <= 5; more++) {
            DoorBench x = new DoorBench();
            x.door(1, 5, 5, 0);
            x.row(0, 0, 20, 20);
            x.check(1, 1, 10 + 2 * more, 9999);
            due("5 and 5, and " + more, x.worse(), more);
            due("MISS stays", x.look(0, 1), 5);
            due("DOUBLE stays", x.look(0, 2), 5);
            due("fits stays", x.fits(), more == 0 ? 1 : 0);
        }
        DoorBench x = new DoorBench();
        x.door(1, 5, 5, 0);
        x.row(0, 0, 20, 20);
        x.check(1, 1, 21, 9999);
        due("not even with 5", x.worse(), NONE);
    }

    private static void worseEachDoor() {
        DoorBench x = new DoorBench();
        for (int door = 0; door < DOORS; door++) {
            x.door(door % 2, 0, 0, 0);
            x.row(door, 0, 0, 0);
        }
        for (int many : new int[] {0, 1, 6, 7, 12, 13, 24, 25, 30}) {
            x.check(1, 2, many, many);
            due(many + " by six DOORS", x.worse(), (many + 5) / 6);
            x.uncheck();
        }
        x.check(1, 2, 31, 31);
        due("31 by six DOORS", x.worse(), NONE);
    }

    private static void worseNotOfLackingOnes() {
        DoorBench x = new DoorBench();
        x.door(0, 5, 5, 3);
        x.check(1, 0, 3, 3);
        due("the CAP", x.worse(), 0);
        x.uncheck();
        x.check(1, 0, 4, 4);
        due("one above the CAP", x.worse(), NONE);
    }

    private static void worseWithoutDoors() {
        due("there is a TRUTH", new DoorBench().worse(), 0);
        DoorBench x = new DoorBench();
        x.check(0, 0, 1, 1);
        due("there is none", x.worse(), NONE);
    }

    private static void worseByOneIsNoTruth() {
        for (int seen : new int[] {21, 18}) {
            DoorBench x = seen(20, 0, 0, seen);
            due("worse", x.worse(), 1);
            due("fits", x.fits(), 0);
            due("quarrel", x.quarrel(), 1);
            due("could", x.could(0), NONE);
            due("surely", x.surely(0), NONE);
            dueNoElement("inside", () -> x.inside(0, 0, true));
            dueNoElement("through", () -> x.through(0, 0, true));
        }
    }

    // ---- Promise 15: quarrel

    private static void quarrelEachTime() {
        for (int ticks : new int[] {1, 2, TICKS}) {
            for (int time = 0; time <= ticks; time++) {
                DoorBench x = dayOf(ticks);
                x.check(time, 2, 1, 1);
                due("T " + ticks + ", a CHECK at " + time, x.quarrel(), time);
            }
        }
    }

    private static void quarrelBehindATick() {
        for (int tick = 0; tick < TICKS; tick++) {
            DoorBench x = dayOf(TICKS);
            x.door(0, 0, 0, 0);
            x.row(0, tick, 0, 1);
            due("below 0 behind TICK " + tick, x.quarrel(), tick + 1);
        }
    }

    private static void quarrelFirst() {
        DoorBench x = dayOf(4);
        x.door(0, 0, 0, 1);
        x.check(4, 0, 5, 5);
        due("at TIME 4", x.quarrel(), 4);
        x.check(2, 0, 3, 3);
        due("at TIME 2", x.quarrel(), 2);
        x.check(3, 0, 9, 9);
        due("at TIME 2 all the same", x.quarrel(), 2);
        x.check(0, 0, 1, 1);
        due("at TIME 0", x.quarrel(), 0);
    }

    private static void quarrelByWhatIsBeforeAlone() {
        DoorBench x = dayOf(3);
        x.door(0, 0, 0, 20);
        x.check(1, 0, 20, 20);
        x.row(0, 1, 0, 20);
        x.row(0, 2, 0, 1);
        due("what comes later doesn't show before", x.quarrel(), 3);
        x.row(0, 2, 0, 0);
        due("there is a TRUTH", x.quarrel(), NONE);
        x.check(2, 0, 1, 1);
        due("with the CHECKS of this TIME, too", x.quarrel(), 2);
    }

    private static void quarrelNone() {
        due("a new object", new DoorBench().quarrel(), NONE);
        due("six DOORS", withDoors(TICKS, DOORS).quarrel(), NONE);
        due("twenty CHECKS", withChecks(CHECKS).quarrel(), NONE);
        DoorBench x = withoutTruth();
        due("there is no TRUTH", x.quarrel(), 1);
        x.uncheck();
        due("there is one anew", x.quarrel(), NONE);
    }

    // ---- Promise 16: look

    private static void lookDoors() {
        for (int doors = 0; doors <= DOORS; doors++) {
            int count = doors;
            for (int door = 0; door < doors; door++) {
                due("DOOR " + door, withDoors(1, count).look(door, 0), door % 3);
            }
            for (int what = 0; what <= 6; what++) {
                int asked = what;
                dueIndexOutside(0, doors - 1, () -> withDoors(1, count), (x, n) -> x.look(n, asked));
            }
        }
    }

    private static void lookWhats() {
        DoorBench x = dayOf(2);
        x.door(1, 2, 3, 4);
        x.row(0, 1, 6, 7);
        int[] want = {1, 2, 3, 4, 1, 6, 7};
        for (int what = 0; what <= 6; what++) {
            due("what " + what, x.look(0, what), want[what]);
        }
        for (int what : outside(0, 6)) {
            dueNoElement("what " + what, () -> withDoors(1, DOORS).look(0, what));
            dueNoElement("what " + what, () -> withDoors(1, DOORS).look(5, what));
        }
    }

    private static void lookNoDoorNorWhat() {
        for (int what : outside(0, 6)) {
            dueIndex("no DOOR, what " + what, () -> new DoorBench().look(0, what));
            dueIndex("what " + what, () -> withDoors(1, DOORS).look(6, what));
            dueIndex("what " + what, () -> withDoors(1, DOORS).look(-1, what));
        }
    }

    private static void lookLeastAndGreatest() {
        DoorBench x = dayOf(TICKS);
        x.door(0, 0, 0, 0);
        x.door(2, 5, 5, 20);
        for (int tick = 0; tick < TICKS; tick++) {
            x.row(1, tick, 20, 20);
        }
        int[] least = {0, 0, 0, 0, 0, 0, 0};
        int[] greatest = {2, 5, 5, 20, 60, 1200, 1200};
        for (int what = 0; what <= 6; what++) {
            due("the least of what " + what, x.look(0, what), least[what]);
            due("the greatest of what " + what, x.look(1, what), greatest[what]);
        }
    }

    private static void lookWithoutTruth() {
        DoorBench x = withoutTruth();
        x.row(1, 2, 3, 4);
        int[] want = {1, 0, 0, 1, 1, 3, 4};
        for (int what = 0; what <= 6; what++) {
            due("what " + what, x.look(1, what), want[what]);
        }
    }

    private static void lookAtRowsOfNone() {
        DoorBench x = withDoors(3, 1);
        x.row(0, 0, 0, 0);
        x.row(0, 2, 0, 0);
        due("they are told", x.look(0, 4), 2);
        due("as none in", x.look(0, 5), 0);
        due("and none out", x.look(0, 6), 0);
    }

    // ---- Promise 17: count

    private static void countWhats() {
        DoorBench x = dayOf(7);
        x.door(0, 0, 0, 0);
        x.door(0, 0, 0, 0);
        x.check(0, 0, 0, 0);
        x.check(0, 0, 0, 0);
        x.check(0, 0, 0, 0);
        x.row(1, 6, 0, 0);
        int[] want = {7, 2, 3, 1};
        for (int what = 0; what <= 3; what++) {
            due("what " + what, x.count(what), want[what]);
        }
        dueRefused(0, 3, EdgesTest::withoutTruth, (y, n) -> y.count(n), NONE);
    }

    private static void countLeastAndGreatest() {
        int[] least = {1, 0, 0, 0};
        int[] greatest = {TICKS, DOORS, CHECKS, 360};
        DoorBench x = toldDoors(TICKS, DOORS);
        for (int check = 0; check < CHECKS; check++) {
            x.check(TICKS, 2, 0, 9999);
        }
        for (int what = 0; what <= 3; what++) {
            due("the least of what " + what, new DoorBench().count(what), least[what]);
            due("the greatest of what " + what, x.count(what), greatest[what]);
        }
    }

    // ---- 'at most 512 calls'

    private static void theLastOf512Calls() {
        DoorBench x = withDoors(2, DOORS);
        int made = 1 + DOORS;
        for (int check = 0; check < CHECKS; check++) {
            x.check(0, 0, 0, 9999);
            made++;
        }
        while (made < 510) {
            due("the next", x.could(0), 1);
            made++;
        }
        due("call 511", x.inside(2, 0, true), 8);
        due("call 512", x.inside(2, 2, true), 8);
    }

    public static void main(String[] args) {
        buildingTests();
        checkTests();
        spanTests();
        limitAndDoorTests();
        lastTests();
        tellAndExit();
    }

    private static void buildingTests() {
        test("1: No DOORS", EdgesTest::newHasNoDoors);
        test("1: T 1", EdgesTest::newHasOneTick);
        test("1: START 0 .. 0 both", EdgesTest::newStartsEmpty);
        test("1: no CHECKS", EdgesTest::newHasNoChecks);
        test("1: a new object has a TRUTH", EdgesTest::newHasATruth);
        test("2: T 1 .. 60: true; false for others", EdgesTest::dayTakesOneToSixty);
        test("2: all ROWS LACK", EdgesTest::dayMakesAllRowsLack);
        test("2: no DOORS", EdgesTest::dayHasNoDoors);
        test("2: no CHECKS", EdgesTest::dayHasNoChecks);
        test("2: START 0", EdgesTest::dayHasStartNone);
        test("3: KIND 0, 1, 2", EdgesTest::doorKinds);
        test("3: MISS 0 .. 5", EdgesTest::doorMiss);
        test("3: DOUBLE 0 .. 5", EdgesTest::doorDouble);
        test("3: CAP 0 .. 20", EdgesTest::doorCap);
        test("3: at most 6, numbered from 0 on", EdgesTest::doorAtMostSix);
        test("3: a refused DOOR takes no number", EdgesTest::doorRefusedTakesNoNumber);
        test("3: DOORS alike are two", EdgesTest::doorsAlikeAreTwo);
        test("4: no such DOOR", EdgesTest::rowDoors);
        test("4: no such TICK", EdgesTest::rowTicks);
        test("4: IN 0 .. 20", EdgesTest::rowIn);
        test("4: OUT 0 .. 20", EdgesTest::rowOut);
        test("4: in place of what was", EdgesTest::rowInPlaceOfWhatWas);
        test("4: of this DOOR and TICK alone", EdgesTest::rowOfOneDoorAndTickAlone);
        test("5: no such DOOR", EdgesTest::lackDoors);
        test("5: no such TICK to begin with", EdgesTest::lackFrom);
        test("5: no such TICK to end with", EdgesTest::lackTo);
        test("5: from not behind to", EdgesTest::lackFromNotBehindTo);
        test("5: up to another one (this one, too)", EdgesTest::lackFromThatTickToThisOneToo);
        test("5: what LACKS already", EdgesTest::lackWhatLacksAlready);
        test("6: HALL 0, 1", EdgesTest::startHalls);
        test("6: 0 .. low .. high .. 9999", EdgesTest::startSpans);
        test("6: in place of what was", EdgesTest::startInPlaceOfWhatWas);
    }

    private static void checkTests() {
        test("7: TIMES 0 .. T", EdgesTest::checkTimes);
        test("7: A (0), B (1), both together (2)", EdgesTest::checkWhats);
        test("7: low .. high (0 .. 9999)", EdgesTest::checkSpans);
        test("7: at most 20", EdgesTest::checkAtMostTwenty);
        test("7: each of twenty holds", EdgesTest::checkEachOfTwentyHolds);
        test("7: a refused CHECK takes no number", EdgesTest::checkRefusedTakesNoNumber);
        test("7: a CHECK is taken though it can't hold", EdgesTest::checkIsTakenThoughItCannotHold);
        test("8: NONE: there is none", EdgesTest::uncheckNone);
        test("8: how many there are", EdgesTest::uncheckTwenty);
        test("8: the latest CHECK is gone", EdgesTest::uncheckTheLatest);
        test("9: INSIDE is never below 0", EdgesTest::fitsNeverBelowNone);
        test("9: behind each TICK", EdgesTest::fitsNotBelowNoneInBetween);
        test("9: within a TICK IN and OUT come in any order", EdgesTest::fitsOneTickInAndOut);
        test("9: a CHECK holds within low .. high", EdgesTest::fitsCheckEnds);
        test("9: START is within its span", EdgesTest::fitsStartEnds);
        test("9: without DOORS", EdgesTest::fitsWithoutDoors);
        test("Terms: n less DOUBLE (0 at least)", EdgesTest::passedToldAndDouble);
        test("Terms: to n and MISS", EdgesTest::passedToldAndMiss);
        test("Terms: of a LACKING one from 0 to CAP, each way by itself", EdgesTest::passedLacking);
    }

    private static void spanTests() {
        test("10: no such TIME", EdgesTest::insideTimes);
        test("10: no such what", EdgesTest::insideWhats);
        test("10: there is no TRUTH", EdgesTest::insideWithoutTruth);
        test("10: no such TIME, what, nor a TRUTH", EdgesTest::insideWrongIndexAndWithoutTruth);
        test("10: TIME t lies ahead of TICK t", EdgesTest::insideTimeLiesAheadOfItsTick);
        test("10: INSIDE has no upper limit", EdgesTest::insideHasNoUpperLimit);
        test("10: INSIDE is never below 0", EdgesTest::insideDownToNone);
    }

    private static void limitAndDoorTests() {
        test("11: a limit (0 .. 99999)", EdgesTest::couldLimits);
        test("11: above it", EdgesTest::couldAboveNotAt);
        test("11: the first TIME; NONE: at no TIME", EdgesTest::couldFirstTime);
        test("11: NONE: no TRUTH", EdgesTest::couldWithoutTruth);
        test("12: a limit (0 .. 99999)", EdgesTest::surelyLimits);
        test("12: above it", EdgesTest::surelyAboveNotAt);
        test("12: in every TRUTH", EdgesTest::surelyInEveryTruth);
        test("12: the first TIME; NONE: at no TIME", EdgesTest::surelyFirstTime);
        test("12: NONE: no TRUTH", EdgesTest::surelyWithoutTruth);
        test("13: no such DOOR", EdgesTest::throughDoors);
        test("13: no such TICK", EdgesTest::throughTicks);
        test("13: IN less OUT", EdgesTest::throughInLessOut);
        test("13: there is no TRUTH", EdgesTest::throughWithoutTruth);
        test("13: no such DOOR, TICK, nor a TRUTH", EdgesTest::throughWrongIndexAndWithoutTruth);
        test("13: nobody passes who isn't there", EdgesTest::throughIsHeldByNone);
        test("13: over all TRUTHS, later CHECKS, too", EdgesTest::throughIsHeldByLaterChecks);
        test("13: over all TRUTHS, other DOORS, too", EdgesTest::throughIsHeldByOtherDoors);
    }

    private static void lastTests() {
        test("14: MISS is k more, 0 .. 5", EdgesTest::worseMiss);
        test("14: DOUBLE is k more, 0 .. 5", EdgesTest::worseDouble);
        test("14: DOUBLE takes none below 0", EdgesTest::worseDoubleNotBelowNone);
        test("14: more than the greatest MISS and DOUBLE", EdgesTest::worseOnTopOfTheGreatest);
        test("14: each DOOR's", EdgesTest::worseEachDoor);
        test("14: a LACKING one stays within its CAP", EdgesTest::worseNotOfLackingOnes);
        test("14: without DOORS", EdgesTest::worseWithoutDoors);
        test("14: a TRUTH with k 1 is none without", EdgesTest::worseByOneIsNoTruth);
        test("15: CHECKS up to it, TIME 0 .. T", EdgesTest::quarrelEachTime);
        test("15: TICKS ahead of it", EdgesTest::quarrelBehindATick);
        test("15: the first TIME", EdgesTest::quarrelFirst);
        test("15: by no later TICK or CHECK", EdgesTest::quarrelByWhatIsBeforeAlone);
        test("15: NONE: there is a TRUTH", EdgesTest::quarrelNone);
        test("16: no such DOOR", EdgesTest::lookDoors);
        test("16: no such what: NoSuchElementException", EdgesTest::lookWhats);
        test("16: no such DOOR, nor what", EdgesTest::lookNoDoorNorWhat);
        test("16: the least and the greatest of each", EdgesTest::lookLeastAndGreatest);
        test("16: without a TRUTH", EdgesTest::lookWithoutTruth);
        test("16: TICKS that aren't LACKING, told 0 and 0", EdgesTest::lookAtRowsOfNone);
        test("17: NONE for another what", EdgesTest::countWhats);
        test("17: the least and the greatest of each", EdgesTest::countLeastAndGreatest);
        test("at most 512 calls", EdgesTest::theLastOf512Calls);
    }
}
