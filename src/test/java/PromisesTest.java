/** A section for each promise: ordinary inputs, the edges that the document names, wrong inputs. */
public final class PromisesTest extends Dues {
    private static final int[] FAR = {LEAST_INT, -1000000, GREATEST_INT};

    /** All that can be asked of a bench, as one text. */
    private static String state(DoorBench x) {
        StringBuilder s = new StringBuilder();
        for (int what = 0; what <= 3; what++) {
            s.append(x.count(what)).append(' ');
        }
        for (int door = 0; door < x.count(1); door++) {
            for (int what = 0; what <= 6; what++) {
                s.append(x.look(door, what)).append(' ');
            }
        }
        s.append(x.fits()).append(' ').append(x.worse()).append(' ').append(x.quarrel()).append(' ');
        for (int time = 0; time <= x.count(0); time++) {
            for (int what = 0; what <= 2; what++) {
                final int t = time;
                final int w = what;
                s.append(told(() -> x.inside(t, w, false))).append(' ');
                s.append(told(() -> x.inside(t, w, true))).append(' ');
            }
        }
        for (int door = 0; door < x.count(1); door++) {
            for (int tick = 0; tick < x.count(0); tick++) {
                final int d = door;
                final int t = tick;
                s.append(told(() -> x.through(d, t, false))).append(' ');
                s.append(told(() -> x.through(d, t, true))).append(' ');
            }
        }
        return s.toString();
    }

    private static DoorBench full() {
        DoorBench x = new DoorBench();
        x.day(3);
        x.door(0, 1, 2, 3);
        x.door(2, 0, 0, 2);
        x.start(0, 2, 4);
        x.start(1, 1, 1);
        x.row(0, 0, 4, 1);
        x.row(1, 2, 2, 0);
        x.check(2, 2, 3, 9);
        return x;
    }

    private static void aNewObject() {
        DoorBench x = new DoorBench();
        due("1: T", x.count(0), 1);
        due("1: DOORS", x.count(1), 0);
        due("1: CHECKS", x.count(2), 0);
        due("1: ROWS", x.count(3), 0);
        due("1: fits", x.fits(), 1);
        for (int time = 0; time <= 1; time++) {
            for (int what = 0; what <= 2; what++) {
                dueSpan("1: inside", x, time, what, 0, 0);
            }
        }
        due("1: NONE", DoorBench.NONE, -1);
        DoorBench other = new DoorBench();
        other.door(0, 0, 0, 4);
        other.start(0, 3, 3);
        due("1: objects stand by themselves", x.count(1), 0);
        dueSpan("1: objects stand by themselves", x, 0, 0, 0, 0);
    }

    private static void day() {
        DoorBench x = full();
        String before = state(x);
        for (int ticks : new int[] {0, 61, -1, FAR[0], FAR[1], FAR[2]}) {
            due("2: day refuses", x.day(ticks), false);
        }
        dueText("2: a refused day changes nothing", state(x), before);
        due("2: day(60)", x.day(60), true);
        due("2: T", x.count(0), 60);
        due("2: DOORS", x.count(1), 0);
        due("2: CHECKS", x.count(2), 0);
        due("2: ROWS", x.count(3), 0);
        dueSpan("2: START", x, 0, 2, 0, 0);
        dueSpan("2: at the end", x, 60, 2, 0, 0);
        due("2: day(1)", x.day(1), true);
        due("2: T", x.count(0), 1);
        x = full();
        x.day(3);
        due("2: a DOOR anew", x.door(0, 0, 0, 1), 0);
        due("2: its ROWS LACK", x.look(0, 4), 0);
        due("2: its sums", x.look(0, 5) + x.look(0, 6), 0);
        dueSpan("2: by the CAP alone", x, 1, 0, 0, 1);
        due("2: uncheck", x.uncheck(), NONE);
    }

    private static void door() {
        DoorBench x = new DoorBench();
        String before = state(x);
        int[][] bad = {{-1, 0, 0, 0}, {3, 0, 0, 0}, {0, -1, 0, 0}, {0, 6, 0, 0}, {0, 0, -1, 0},
            {0, 0, 6, 0}, {0, 0, 0, -1}, {0, 0, 0, 21}};
        for (int[] b : bad) {
            due("3: door refuses", x.door(b[0], b[1], b[2], b[3]), NONE);
        }
        for (int far : FAR) {
            due("3: door refuses", x.door(far, 0, 0, 0), NONE);
            due("3: door refuses", x.door(0, far, 0, 0), NONE);
            due("3: door refuses", x.door(0, 0, far, 0), NONE);
            due("3: door refuses", x.door(0, 0, 0, far), NONE);
        }
        dueText("3: a refused door changes nothing", state(x), before);
        due("3: the least", x.door(0, 0, 0, 0), 0);
        due("3: the greatest", x.door(2, 5, 5, 20), 1);
        due("3: third", x.door(1, 1, 2, 3), 2);
        due("3: fourth", x.door(0, 0, 0, 0), 3);
        due("3: fifth", x.door(0, 0, 0, 0), 4);
        due("3: sixth", x.door(0, 0, 0, 0), 5);
        before = state(x);
        due("3: seventh", x.door(0, 0, 0, 0), NONE);
        dueText("3: the seventh changes nothing", state(x), before);
        due("3: six", x.count(1), 6);

        DoorBench a = new DoorBench();
        a.door(0, 0, 0, 7);
        dueSpan("3: KIND 0 in A", a, 1, 0, 0, 7);
        dueSpan("3: KIND 0 in B", a, 1, 1, 0, 0);
        DoorBench b = new DoorBench();
        b.door(1, 0, 0, 7);
        dueSpan("3: KIND 1 in A", b, 1, 0, 0, 0);
        dueSpan("3: KIND 1 in B", b, 1, 1, 0, 7);
        DoorBench c = new DoorBench();
        c.door(2, 0, 0, 7);
        c.start(0, 4, 4);
        c.row(0, 0, 3, 0);
        dueSpan("3: KIND 2 in A", c, 1, 0, 1, 1);
        dueSpan("3: KIND 2 in B", c, 1, 1, 3, 3);
        dueSpan("3: KIND 2 in both", c, 1, 2, 4, 4);
    }

    private static void row() {
        DoorBench x = full();
        String before = state(x);
        int[][] bad = {{-1, 0, 0, 0}, {2, 0, 0, 0}, {0, -1, 0, 0}, {0, 3, 0, 0}, {0, 0, -1, 0},
            {0, 0, 21, 0}, {0, 0, 0, -1}, {0, 0, 0, 21}};
        for (int[] b : bad) {
            due("4: row refuses", x.row(b[0], b[1], b[2], b[3]), false);
        }
        for (int far : FAR) {
            due("4: row refuses", x.row(far, 0, 0, 0), false);
            due("4: row refuses", x.row(0, far, 0, 0), false);
            due("4: row refuses", x.row(0, 0, far, 0), false);
            due("4: row refuses", x.row(0, 0, 0, far), false);
        }
        dueText("4: a refused row changes nothing", state(x), before);

        DoorBench y = new DoorBench();
        y.day(2);
        y.door(0, 3, 2, 20);
        due("4: row", y.row(0, 1, 20, 20), true);
        due("4: row", y.row(0, 0, 20, 0), true);
        due("4: sum", y.look(0, 5), 40);
        dueSpan("4: with MISS and DOUBLE", y, 1, 0, 15, 23);
        due("4: row in place", y.row(0, 0, 1, 0), true);
        dueSpan("4: 0 at least", y, 1, 0, 0, 4);
        dueThrough("4: 0 at least", y, 0, 0, 0, 4);
        due("4: rows", y.look(0, 4), 2);
        due("4: sum", y.look(0, 5), 21);
        due("4: sum", y.look(0, 6), 20);
        due("4: row(0, 0)", y.row(0, 0, 0, 0), true);
        due("4: a ROW of nothing is told", y.look(0, 4), 2);
    }

    private static void lack() {
        DoorBench x = full();
        String before = state(x);
        int[][] bad = {{-1, 0, 0}, {2, 0, 0}, {0, -1, 0}, {0, 0, 3}, {0, 2, 1}, {0, 3, 3}, {0, -1, -1}};
        for (int[] b : bad) {
            due("5: lack refuses", x.lack(b[0], b[1], b[2]), false);
        }
        for (int far : FAR) {
            due("5: lack refuses", x.lack(far, 0, 0), false);
            due("5: lack refuses", x.lack(0, far, 0), false);
            due("5: lack refuses", x.lack(0, 0, far), false);
            due("5: lack refuses", x.lack(0, far, far), false);
        }
        dueText("5: a refused lack changes nothing", state(x), before);

        DoorBench y = new DoorBench();
        y.day(60);
        y.door(0, 0, 0, 3);
        y.door(1, 0, 0, 3);
        for (int tick = 0; tick < 60; tick++) {
            y.row(0, tick, 1, 0);
            y.row(1, tick, 2, 1);
        }
        due("5: all told", y.count(3), 120);
        due("5: from equal to to", y.lack(0, 5, 5), true);
        due("5: one less", y.look(0, 4), 59);
        dueThrough("5: it LACKS", y, 0, 5, -3, 3);
        dueThrough("5: its neighbour is told", y, 0, 4, 1, 1);
        dueThrough("5: its neighbour is told", y, 0, 6, 1, 1);
        due("5: both ends, too", y.lack(0, 10, 12), true);
        due("5: three less", y.look(0, 4), 56);
        due("5: from the first", y.lack(0, 0, 0), true);
        due("5: to the last", y.lack(0, 59, 59), true);
        due("5: two less", y.look(0, 4), 54);
        due("5: the other DOOR is as it was", y.look(1, 4), 60);
        due("5: the other DOOR's sums", y.look(1, 5) * 1000 + y.look(1, 6), 120060);
        due("5: again", y.lack(0, 59, 59), true);
        due("5: all", y.lack(0, 0, 59), true);
        due("5: none", y.look(0, 4), 0);
        due("5: no sums", y.look(0, 5) + y.look(0, 6), 0);
        dueSpan("5: at the end", y, 60, 0, 0, 180);
    }

    private static void start() {
        DoorBench x = full();
        String before = state(x);
        int[][] bad = {{-1, 0, 0}, {2, 0, 0}, {0, -1, 0}, {0, 1, 0}, {0, 0, 10000}, {1, 10000, 10000}, {1, -2, -1}};
        for (int[] b : bad) {
            due("6: start refuses", x.start(b[0], b[1], b[2]), false);
        }
        for (int far : FAR) {
            due("6: start refuses", x.start(far, 0, 0), false);
            due("6: start refuses", x.start(0, far, 0), false);
            due("6: start refuses", x.start(0, 0, far), false);
        }
        dueText("6: a refused start changes nothing", state(x), before);

        DoorBench y = new DoorBench();
        due("6: A", y.start(0, 0, 9999), true);
        due("6: B", y.start(1, 9999, 9999), true);
        dueSpan("6: A", y, 0, 0, 0, 9999);
        dueSpan("6: B", y, 0, 1, 9999, 9999);
        dueSpan("6: both", y, 1, 2, 9999, 19998);
        due("6: in place of what was", y.start(1, 0, 0), true);
        dueSpan("6: B", y, 0, 1, 0, 0);
        dueSpan("6: A as it was", y, 0, 0, 0, 9999);
    }

    private static void check() {
        DoorBench x = full();
        String before = state(x);
        int[][] bad = {{-1, 0, 0, 0}, {4, 0, 0, 0}, {0, -1, 0, 0}, {0, 3, 0, 0}, {0, 0, -1, 0},
            {0, 0, 1, 0}, {0, 0, 0, 10000}, {0, 0, 10000, 10000}, {0, 0, -2, -1}};
        for (int[] b : bad) {
            due("7: check refuses", x.check(b[0], b[1], b[2], b[3]), NONE);
        }
        for (int far : FAR) {
            due("7: check refuses", x.check(far, 0, 0, 0), NONE);
            due("7: check refuses", x.check(0, far, 0, 0), NONE);
            due("7: check refuses", x.check(0, 0, far, 0), NONE);
            due("7: check refuses", x.check(0, 0, 0, far), NONE);
        }
        dueText("7: a refused check changes nothing", state(x), before);

        DoorBench y = new DoorBench();
        y.day(2);
        for (int number = 0; number < 19; number++) {
            due("7: its number", y.check(number % 3, number / 7, 0, 9999), number);
        }
        due("7: the twentieth", y.check(2, 2, 0, 0), 19);
        before = state(y);
        due("7: the next", y.check(1, 1, 0, 9999), NONE);
        dueText("7: the next changes nothing", state(y), before);
        due("7: twenty", y.count(2), 20);

        DoorBench z = new DoorBench();
        z.start(0, 0, 9);
        z.start(1, 0, 9);
        due("7: at TIME 0", z.check(0, 0, 2, 7), 0);
        dueSpan("7: A", z, 1, 0, 2, 7);
        dueSpan("7: B", z, 1, 1, 0, 9);
        due("7: at TIME T", z.check(1, 2, 14, 14), 1);
        dueSpan("7: A with both", z, 0, 0, 5, 7);
        dueSpan("7: B with both", z, 0, 1, 7, 9);
        due("7: on the same TIME and what", z.check(1, 2, 14, 15), 2);
        dueSpan("7: both hold", z, 0, 2, 14, 14);
        due("7: B", z.check(0, 1, 8, 8), 3);
        dueSpan("7: A by the rest", z, 1, 0, 6, 6);
    }

    private static void uncheck() {
        DoorBench x = new DoorBench();
        due("8: none", x.uncheck(), NONE);
        x.start(0, 0, 9);
        x.check(0, 0, 3, 9);
        x.check(1, 0, 0, 4);
        dueSpan("8: both CHECKS", x, 0, 0, 3, 4);
        due("8: the latest is gone", x.uncheck(), 1);
        dueSpan("8: the first is left", x, 0, 0, 3, 9);
        due("8: the number anew", x.check(1, 0, 5, 5), 1);
        dueSpan("8: the new one", x, 0, 0, 5, 5);
        due("8: one", x.uncheck(), 1);
        due("8: none is left", x.uncheck(), 0);
        due("8: none at all", x.uncheck(), NONE);
        due("8: count", x.count(2), 0);
        dueSpan("8: as at first", x, 0, 0, 0, 9);
        for (int number = 0; number < 20; number++) {
            x.check(0, 0, 0, 9);
        }
        due("8: nineteen", x.uncheck(), 19);
        due("8: the twentieth anew", x.check(0, 0, 0, 9), 19);
    }

    private static void fits() {
        DoorBench x = new DoorBench();
        x.day(2);
        x.door(0, 0, 0, 3);
        due("9: fits", x.fits(), 1);
        x.row(0, 0, 0, 1);
        due("9: below 0", x.fits(), 0);
        x.start(0, 0, 1);
        due("9: one to go out", x.fits(), 1);
        x.check(2, 0, 4, 4);
        due("9: too many", x.fits(), 0);
        x.uncheck();
        x.check(2, 0, 3, 3);
        due("9: just so many", x.fits(), 1);
        x.check(2, 2, 4, 9999);
        due("9: two CHECKS that can't both hold", x.fits(), 0);

        DoorBench y = new DoorBench();
        y.door(2, 0, 0, 20);
        y.start(1, 3, 3);
        y.check(1, 0, 2, 2);
        y.check(1, 1, 2, 2);
        due("9: B to A can't lose one", y.fits(), 0);
        y.uncheck();
        y.check(1, 1, 1, 1);
        due("9: OUT of KIND 2 is B to A", y.fits(), 1);
    }

    private static void inside() {
        DoorBench x = full();
        for (int what = 0; what <= 2; what++) {
            final int w = what;
            dueIndex("10: no such TIME", () -> x.inside(-1, w, false));
            dueIndex("10: no such TIME", () -> x.inside(4, w, true));
        }
        dueIndex("10: no such what", () -> x.inside(0, -1, false));
        dueIndex("10: no such what", () -> x.inside(3, 3, true));
        for (int far : FAR) {
            dueIndex("10: no such TIME", () -> x.inside(far, 0, true));
            dueIndex("10: no such what", () -> x.inside(0, far, true));
        }
        x.check(0, 0, 9999, 9999);
        dueNoElement("10: no TRUTH", () -> x.inside(0, 0, true));
        dueNoElement("10: no TRUTH", () -> x.inside(3, 2, false));
        dueIndex("10: no such TIME, and no TRUTH", () -> x.inside(4, 0, true));
        dueIndex("10: no such what, and no TRUTH", () -> x.inside(0, 3, true));
        x.uncheck();
        String before = state(x);
        dueText("10: to ask changes nothing", state(x), before);

        DoorBench y = new DoorBench();
        y.day(2);
        y.door(0, 0, 0, 5);
        y.row(0, 1, 0, 4);
        dueSpan("10: a later ROW tells of before", y, 1, 0, 4, 5);
        dueSpan("10: behind it", y, 2, 0, 0, 1);
        y.door(2, 0, 0, 2);
        dueSpan("10: B to A helps", y, 1, 0, 2, 5);
        y.check(2, 1, 1, 1);
        dueSpan("10: A at the end", y, 2, 0, 0, 0);
        dueSpan("10: both", y, 1, 2, 5, 5);
        y.uncheck();
        y.check(1, 1, 2, 2);
        dueSpan("10: A and B at once", y, 1, 0, 2, 3);
        dueSpan("10: both at once", y, 1, 2, 4, 5);
    }

    private static void could() {
        DoorBench x = new DoorBench();
        x.day(3);
        x.door(0, 0, 0, 4);
        x.door(1, 0, 0, 1);
        due("11: above 0", x.could(0), 1);
        due("11: above 4", x.could(4), 1);
        due("11: above 5", x.could(5), 2);
        due("11: above 14", x.could(14), 3);
        due("11: above 15", x.could(15), NONE);
        due("11: the greatest limit", x.could(99999), NONE);
        due("11: no such limit", x.could(-1), NONE);
        due("11: no such limit", x.could(100000), NONE);
        for (int far : FAR) {
            due("11: no such limit", x.could(far), NONE);
        }
        x.check(3, 2, 0, 2);
        due("11: with a later CHECK", x.could(6), 2);
        due("11: a later CHECK keeps it low", x.could(7), NONE);
        x.start(0, 3, 3);
        due("11: at TIME 0", x.could(2), 0);
        x.check(0, 2, 4, 4);
        due("11: no TRUTH", x.could(0), NONE);

        DoorBench y = new DoorBench();
        y.start(0, 9999, 9999);
        y.start(1, 9999, 9999);
        due("11: the most at START", y.could(19997), 0);
        due("11: the most at START", y.could(19998), NONE);
    }

    private static void surely() {
        DoorBench x = new DoorBench();
        x.day(3);
        x.door(0, 2, 1, 4);
        x.row(0, 0, 5, 0);
        x.row(0, 1, 5, 0);
        due("12: above 0", x.surely(0), 1);
        due("12: above 1", x.surely(1), 1);
        due("12: above 2", x.surely(2), 2);
        due("12: above 3", x.surely(3), 2);
        due("12: above 4", x.surely(4), NONE);
        due("12: no such limit", x.surely(-1), NONE);
        due("12: no such limit", x.surely(100000), NONE);
        due("12: the greatest limit", x.surely(99999), NONE);
        for (int far : FAR) {
            due("12: no such limit", x.surely(far), NONE);
        }
        x.check(3, 2, 12, 12);
        due("12: a later CHECK tells of before", x.surely(8), 3);
        x.row(0, 2, 0, 0);
        due("12: a later CHECK tells of before", x.surely(8), 2);
        due("12: it can't be above", x.surely(12), NONE);
        x.start(1, 1, 1);
        due("12: at TIME 0", x.surely(0), 0);
        x.check(0, 1, 0, 0);
        due("12: no TRUTH", x.surely(0), NONE);
    }

    private static void through() {
        DoorBench x = full();
        dueIndex("13: no such DOOR", () -> x.through(-1, 0, false));
        dueIndex("13: no such DOOR", () -> x.through(2, 0, true));
        dueIndex("13: no such TICK", () -> x.through(0, -1, false));
        dueIndex("13: no such TICK", () -> x.through(0, 3, true));
        for (int far : FAR) {
            dueIndex("13: no such DOOR", () -> x.through(far, 0, true));
            dueIndex("13: no such TICK", () -> x.through(0, far, true));
        }
        x.check(0, 0, 9999, 9999);
        dueNoElement("13: no TRUTH", () -> x.through(0, 0, true));
        dueIndex("13: no such DOOR, and no TRUTH", () -> x.through(2, 0, true));
        dueIndex("13: no such TICK, and no TRUTH", () -> x.through(0, 3, true));

        DoorBench y = new DoorBench();
        y.day(2);
        y.door(0, 0, 0, 9);
        y.start(0, 4, 4);
        dueThrough("13: not below 0", y, 0, 0, -4, 9);
        dueThrough("13: at the last TICK", y, 0, 1, -9, 9);
        y.check(2, 0, 0, 0);
        dueThrough("13: with the end", y, 0, 0, -4, 5);
        dueThrough("13: with the end", y, 0, 1, -9, 0);
        y.row(0, 0, 2, 3);
        dueThrough("13: told", y, 0, 0, -1, -1);
        dueThrough("13: the rest", y, 0, 1, -3, -3);

        DoorBench z = new DoorBench();
        z.door(0, 0, 0, 9);
        z.door(1, 0, 0, 5);
        z.door(2, 0, 0, 3);
        z.start(0, 2, 2);
        z.start(1, 1, 1);
        z.check(1, 0, 0, 0);
        z.check(1, 1, 4, 4);
        dueThrough("13: outside to A", z, 0, 0, -4, 1);
        dueThrough("13: outside to B", z, 1, 0, 0, 5);
        dueThrough("13: A to B", z, 2, 0, -2, 3);
    }

    private static void worse() {
        DoorBench x = new DoorBench();
        x.door(0, 5, 5, 0);
        x.row(0, 0, 10, 10);
        due("14: it fits", x.worse(), 0);
        x.check(1, 0, 10, 10);
        due("14: ten by 5 and 5", x.worse(), 0);
        for (int more = 1; more <= 5; more++) {
            x.uncheck();
            x.check(1, 0, 9 + 2 * more, 9 + 2 * more);
            due("14: one less", x.worse(), more);
            x.uncheck();
            x.check(1, 0, 10 + 2 * more, 10 + 2 * more);
            due("14: just so much", x.worse(), more);
        }
        x.uncheck();
        x.check(1, 0, 21, 21);
        due("14: not even with 5", x.worse(), NONE);
        dueText("14: to ask changes nothing", x.look(0, 1) + " " + x.look(0, 2), "5 5");

        DoorBench y = new DoorBench();
        y.door(0, 0, 0, 2);
        y.check(1, 0, 3, 3);
        due("14: a LACKING one stays within its CAP", y.worse(), NONE);
        y.row(0, 0, 1, 0);
        due("14: MISS", y.worse(), 2);
        y.uncheck();
        y.row(0, 0, 0, 3);
        due("14: DOUBLE", y.worse(), 2);
        y.start(0, 2, 2);
        due("14: DOUBLE", y.worse(), 1);
    }

    private static void quarrel() {
        DoorBench x = new DoorBench();
        x.day(3);
        x.door(0, 0, 0, 2);
        due("15: there is a TRUTH", x.quarrel(), NONE);
        x.check(3, 0, 7, 7);
        due("15: at TIME T", x.quarrel(), 3);
        x.row(0, 1, 0, 3);
        due("15: a ROW tells it sooner", x.quarrel(), 2);
        x.row(0, 0, 0, 1);
        due("15: the first TICK tells it at TIME 1", x.quarrel(), 1);
        x.check(0, 2, 1, 1);
        due("15: a CHECK at TIME 0", x.quarrel(), 0);
        x.day(2);
        x.door(0, 0, 0, 5);
        x.check(1, 0, 0, 0);
        x.row(0, 1, 0, 1);
        due("15: not before it shows", x.quarrel(), 2);
        x.uncheck();
        due("15: there is a TRUTH anew", x.quarrel(), NONE);
        x.check(1, 0, 2, 3);
        x.check(1, 1, 0, 0);
        x.check(1, 2, 4, 9);
        due("15: two that don't fit a third", x.quarrel(), 1);
    }

    private static void look() {
        DoorBench x = full();
        int[] first = {0, 1, 2, 3, 1, 4, 1};
        int[] second = {2, 0, 0, 2, 1, 2, 0};
        for (int what = 0; what <= 6; what++) {
            due("16: DOOR 0, what " + what, x.look(0, what), first[what]);
            due("16: DOOR 1, what " + what, x.look(1, what), second[what]);
        }
        dueIndex("16: no such DOOR", () -> x.look(-1, 0));
        dueIndex("16: no such DOOR", () -> x.look(2, 0));
        dueIndex("16: no such DOOR, nor what", () -> x.look(2, 7));
        dueNoElement("16: no such what", () -> x.look(0, -1));
        dueNoElement("16: no such what", () -> x.look(1, 7));
        for (int far : FAR) {
            dueIndex("16: no such DOOR", () -> x.look(far, 0));
            dueNoElement("16: no such what", () -> x.look(0, far));
        }
        x.check(0, 0, 9999, 9999);
        due("16: without a TRUTH, too", x.look(0, 5), 4);
        DoorBench y = new DoorBench();
        y.day(60);
        for (int number = 0; number < 6; number++) {
            y.door(number % 3, 5, 5, 20);
        }
        for (int tick = 0; tick < 60; tick++) {
            y.row(5, tick, 20, 19);
        }
        due("16: the sixth DOOR's ROWS", y.look(5, 4), 60);
        due("16: the sixth DOOR's IN", y.look(5, 5), 1200);
        due("16: the sixth DOOR's OUT", y.look(5, 6), 1140);
        due("16: the fifth DOOR's ROWS", y.look(4, 4), 0);
    }

    private static void count() {
        DoorBench x = full();
        due("17: T", x.count(0), 3);
        due("17: DOORS", x.count(1), 2);
        due("17: CHECKS", x.count(2), 1);
        due("17: ROWS", x.count(3), 2);
        x.row(0, 0, 0, 0);
        due("17: a ROW anew is one", x.count(3), 2);
        x.row(0, 2, 0, 0);
        due("17: one more", x.count(3), 3);
        x.lack(0, 0, 2);
        due("17: two less", x.count(3), 1);
        due("17: another what", x.count(-1), NONE);
        due("17: another what", x.count(4), NONE);
        for (int far : FAR) {
            due("17: another what", x.count(far), NONE);
        }
    }

    public static void main(String[] args) {
        test("promise 1", PromisesTest::aNewObject);
        test("promise 2", PromisesTest::day);
        test("promise 3", PromisesTest::door);
        test("promise 4", PromisesTest::row);
        test("promise 5", PromisesTest::lack);
        test("promise 6", PromisesTest::start);
        test("promise 7", PromisesTest::check);
        test("promise 8", PromisesTest::uncheck);
        test("promise 9", PromisesTest::fits);
        test("promise 10", PromisesTest::inside);
        test("promise 11", PromisesTest::could);
        test("promise 12", PromisesTest::surely);
        test("promise 13", PromisesTest::through);
        test("promise 14", PromisesTest::worse);
        test("promise 15", PromisesTest::quarrel);
        test("promise 16", PromisesTest::look);
        test("promise 17", PromisesTest::count);
        tellAndExit();
    }
}
