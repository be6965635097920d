import java.util.Random;

/**
 * Benches too wide for a model that tries every number: sixty TICKS, six DOORS. Each end of a span
 * must fit when it is told as a CHECK or a ROW, and the number beyond it must not.
 */
public final class WideTest {
    private static final int NONE = DoorBench.NONE;

    private static int answers = 0;
    private static int wrong = 0;

    private static void due(int round, String call, long got, long want) {
        answers++;
        if (got != want) {
            wrong++;
            System.out.println("round " + round + ": " + call + " answered " + got + ", due is " + want);
        }
    }

    private static int fitsWithCheck(DoorBench x, int time, int what, int number) {
        if (x.check(time, what, number, number) == NONE) {
            return number < 0 ? 0 : NONE;
        }
        int fits = x.fits();
        x.uncheck();
        return fits;
    }

    private static void compareInside(int round, DoorBench x, int time, int what) {
        int low = x.inside(time, what, false);
        int high = x.inside(time, what, true);
        String span = "inside " + time + " " + what + ": fits with ";
        due(round, span + "the least", fitsWithCheck(x, time, what, low), 1);
        due(round, span + "one less", fitsWithCheck(x, time, what, low - 1), 0);
        due(round, span + "the greatest", fitsWithCheck(x, time, what, high), 1);
        due(round, span + "one more", fitsWithCheck(x, time, what, high + 1), 0);
        due(round, span + "the middle", fitsWithCheck(x, time, what, (low + high) / 2), 1);
    }

    private static int fitsWithRow(DoorBench x, int door, int tick, int net) {
        x.row(door, tick, Math.max(net, 0), Math.max(-net, 0));
        int fits = x.fits();
        x.lack(door, tick, tick);
        return fits;
    }

    /** Of a DOOR with no MISS and no DOUBLE, whose ROW LACKS: a told ROW holds its number fast. */
    private static void compareThrough(int round, DoorBench x, int door, int tick) {
        int cap = x.look(door, 3);
        int low = x.through(door, tick, false);
        int high = x.through(door, tick, true);
        String span = "through " + door + " " + tick + ": fits with ";
        due(round, span + "the least", fitsWithRow(x, door, tick, low), 1);
        due(round, span + "the greatest", fitsWithRow(x, door, tick, high), 1);
        due(round, span + "one less", low == -cap ? 0 : fitsWithRow(x, door, tick, low - 1), 0);
        due(round, span + "one more", high == cap ? 0 : fitsWithRow(x, door, tick, high + 1), 0);
    }

    private static void compareLimit(int round, DoorBench x, int limit) {
        int could = NONE;
        int surely = NONE;
        for (int time = 60; time >= 0; time--) {
            could = x.inside(time, 2, true) > limit ? time : could;
            surely = x.inside(time, 2, false) > limit ? time : surely;
        }
        due(round, "could " + limit, x.could(limit), could);
        due(round, "surely " + limit, x.surely(limit), surely);
    }

    private static boolean lacks(int door, int tick) {
        return (tick + door) % 5 == 0;
    }

    /** Made anew for each few questions, as nothing is promised of an object behind 512 calls. */
    private static DoorBench wide(int round) {
        Random lot = new Random(round);
        DoorBench x = new DoorBench();
        x.day(60);
        for (int door = 0; door < 6; door++) {
            boolean sharp = door < 3;
            x.door(door % 3, sharp ? 0 : lot.nextInt(6), sharp ? 0 : lot.nextInt(6), lot.nextInt(21));
            for (int tick = 0; tick < 60; tick++) {
                if (!lacks(door, tick)) {
                    x.row(door, tick, lot.nextInt(21), lot.nextInt(21));
                }
            }
        }
        for (int hall = 0; hall < 2; hall++) {
            int low = lot.nextInt(300);
            x.start(hall, low, low + lot.nextInt(100));
        }
        for (int i = 0; i < 19; i++) {
            addCheckThatFits(lot, x);
        }
        return x;
    }

    private static void addCheckThatFits(Random lot, DoorBench x) {
        if (x.fits() == 0) {
            return;
        }
        int time = lot.nextInt(61);
        int what = lot.nextInt(3);
        int low = x.inside(time, what, false);
        int high = x.inside(time, what, true);
        int from = low + lot.nextInt(high - low + 1);
        x.check(time, what, from, from + lot.nextInt(9));
    }

    private static void compareOne(int round) {
        for (int time = 0; time <= 60; time += 3) {
            DoorBench x = wide(round);
            for (int what = 0; what <= 2; what++) {
                compareInside(round, x, time, what);
            }
        }
        for (int door = 0; door < 3; door++) {
            for (int tick = 0; tick < 60; tick++) {
                if (lacks(door, tick)) {
                    compareThrough(round, wide(round), door, tick);
                }
            }
        }
        for (int limit = 0; limit < 1000; limit += 77) {
            compareLimit(round, wide(round), limit);
        }
    }

    public static void main(String[] args) {
        int fitting = 0;
        for (int round = 0; round < 80; round++) {
            if (wide(round).fits() == 1) {
                fitting++;
                compareOne(round);
            }
        }
        System.out.println(fitting + " wide benches: " + answers + " answers looked at, " + wrong + " wrong");
        if (wrong != 0 || fitting < 20) {
            System.exit(1);
        }
    }
}
