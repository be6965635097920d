/** What the tests by hand share: they extend it, tell what is due, and end with tellAndExit. */
abstract class Dues {
    static final int NONE = DoorBench.NONE;
    static final int LEAST_INT = Integer.MIN_VALUE;
    static final int GREATEST_INT = Integer.MAX_VALUE;

    private static String test = "";
    private static int tests = 0;
    private static int answers = 0;
    private static int wrong = 0;

    interface Call {
        int answer();
    }

    interface Making {
        DoorBench bench();
    }

    /** A question or a call to a bench; a boolean answer counts 1 or 0. */
    interface Asking {
        int answer(DoorBench x);
    }

    /** A call to a bench that is new each time, with a number that is to be taken or refused. */
    interface Giving {
        int answer(DoorBench x, int number);
    }

    /** Runs one test by itself: what it throws is a fault, as is a test that looks at nothing. */
    static void test(String name, Runnable body) {
        test = name;
        tests++;
        int before = answers;
        try {
            body.run();
        } catch (RuntimeException e) {
            fault("ended by " + e);
        }
        if (answers == before) {
            fault("looked at no answer");
        }
    }

    static void fault(String text) {
        wrong++;
        System.out.println("[" + test + "] " + text);
    }

    static void dueText(String what, String got, String want) {
        answers++;
        if (!got.equals(want)) {
            fault(what + " answered " + got + ", due is " + want);
        }
    }

    static void due(String what, long got, long want) {
        answers++;
        if (got != want) {
            fault(what + " answered " + got + ", due is " + want);
        }
    }

    static void due(String what, boolean got, boolean want) {
        due(what, one(got), one(want));
    }

    static int one(boolean answer) {
        return answer ? 1 : 0;
    }

    /** The answer, or the exception's plain name: its very class, not one below it. */
    static String told(Call call) {
        try {
            return Integer.toString(call.answer());
        } catch (RuntimeException e) {
            return e.getClass().getSimpleName();
        }
    }

    static void dueIndex(String what, Call call) {
        dueText(what, told(call), "IndexOutOfBoundsException");
    }

    static void dueNoElement(String what, Call call) {
        dueText(what, told(call), "NoSuchElementException");
    }

    static void dueSpan(String what, DoorBench x, int time, int hall, int low, int high) {
        due(what + " least", x.inside(time, hall, false), low);
        due(what + " greatest", x.inside(time, hall, true), high);
    }

    static void dueThrough(String what, DoorBench x, int door, int tick, int low, int high) {
        due(what + " least", x.through(door, tick, false), low);
        due(what + " greatest", x.through(door, tick, true), high);
    }

    /**
     * Numbers outside low .. high: the next ones, the least and the greatest int and theirs, and
     * some that a narrower number, or an index that wraps around, would take for one within.
     */
    static int[] outside(int low, int high) {
        int[] numbers = {low - 1, high + 1, LEAST_INT, GREATEST_INT, LEAST_INT + 1, GREATEST_INT - 1,
            low - 1000000, high + 1000000, low - 65536, low + 65536, low + (1 << 30), low - (1 << 30)};
        return java.util.Arrays.stream(numbers).filter(n -> n < low || n > high).toArray();
    }

    static void tellAndExit() {
        System.out.println(tests + " tests: " + answers + " answers looked at, " + wrong + " wrong");
        if (wrong != 0) {
            System.exit(1);
        }
    }
}
