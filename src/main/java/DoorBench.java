import java.util.Arrays;
import java.util.NoSuchElementException;

/**
 * A bench that counts people in two HALLS through DOORS whose sensors miss some and count some
 * double. The words in capitals are those of the document.
 */
public final class DoorBench {
    public static final int NONE = -1;

    private static final int HALLS = 2;
    private static final int A = 0;
    private static final int B = 1;
    private static final int BOTH = 2;
    private static final int WHATS = 3;

    private static final int OUTSIDE_TO_A = 0;
    private static final int OUTSIDE_TO_B = 1;
    private static final int KINDS = 3;

    private static final int MOST_DOORS = 6;
    private static final int MOST_TICKS = 60;
    private static final int MOST_CHECKS = 20;
    private static final int MOST_SLIP = 5;
    private static final int MOST_CAP = 20;
    private static final int MOST_TOLD = 20;
    private static final int MOST_INSIDE = 9999;
    private static final int MOST_LIMIT = 99999;
    private static final int MOST_WORSE = 5;

    // Behind the rows of the TIMES 0 .. 60 one more row holds what a TICK's DOORS can change.
    private static final int CHANGE = MOST_TICKS + 1;
    private static final int SPAN_ROWS = CHANGE + 1;

    // Far above what can be inside: two STARTS, and six DOORS for sixty TICKS, stay below 40000.
    private static final int ENDLESS = 1000000;

    private final int[] kinds;
    private final int[] misses;
    private final int[] doubles;
    private final int[] caps;
    private final int[] toldIn;
    private final int[] toldOut;
    private final int[] startLow;
    private final int[] startHigh;
    private final int[] checkTime;
    private final int[] checkWhat;
    private final int[] checkLow;
    private final int[] checkHigh;
    private final Spans spans;
    private int ticks;
    private int doors;
    private int checks;

    public DoorBench() {
        kinds = new int[MOST_DOORS];
        misses = new int[MOST_DOORS];
        doubles = new int[MOST_DOORS];
        caps = new int[MOST_DOORS];
        toldIn = new int[MOST_DOORS * MOST_TICKS];
        toldOut = new int[MOST_DOORS * MOST_TICKS];
        startLow = new int[HALLS];
        startHigh = new int[HALLS];
        checkTime = new int[MOST_CHECKS];
        checkWhat = new int[MOST_CHECKS];
        checkLow = new int[MOST_CHECKS];
        checkHigh = new int[MOST_CHECKS];
        spans = new Spans();
        beginDay(1);
    }

    public boolean day(int ticks) {
        if (!within(ticks, 1, MOST_TICKS)) {
            return false;
        }
        beginDay(ticks);
        return true;
    }

    public int door(int kind, int miss, int doubled, int cap) {
        boolean canBe = within(kind, 0, KINDS - 1) && within(miss, 0, MOST_SLIP)
                && within(doubled, 0, MOST_SLIP) && within(cap, 0, MOST_CAP);
        if (!canBe || doors >= MOST_DOORS) {
            return NONE;
        }
        int number = doors;
        kinds[number] = kind;
        misses[number] = miss;
        doubles[number] = doubled;
        caps[number] = cap;
        doors = number + 1;
        return number;
    }

    public boolean row(int door, int tick, int in, int out) {
        boolean canBe = isDoor(door) && isTick(tick)
                && within(in, 0, MOST_TOLD) && within(out, 0, MOST_TOLD);
        if (!canBe) {
            return false;
        }
        int at = place(door, tick);
        toldIn[at] = in;
        toldOut[at] = out;
        return true;
    }

    public boolean lack(int door, int from, int to) {
        if (!isDoor(door) || !isTick(from) || !isTick(to) || from > to) {
            return false;
        }
        for (int tick = from; tick <= to; tick++) {
            toldIn[place(door, tick)] = NONE;
            toldOut[place(door, tick)] = NONE;
        }
        return true;
    }

    public boolean start(int hall, int low, int high) {
        if (!within(hall, 0, HALLS - 1) || !isSpanInside(low, high)) {
            return false;
        }
        startLow[hall] = low;
        startHigh[hall] = high;
        return true;
    }

    public int check(int time, int what, int low, int high) {
        boolean canBe = isTime(time) && isWhat(what) && isSpanInside(low, high);
        if (!canBe || checks >= MOST_CHECKS) {
            return NONE;
        }
        int number = checks;
        checkTime[number] = time;
        checkWhat[number] = what;
        checkLow[number] = low;
        checkHigh[number] = high;
        checks = number + 1;
        return number;
    }

    public int uncheck() {
        if (checks == 0) {
            return NONE;
        }
        checks--;
        return checks;
    }

    public int fits() {
        return lookAhead(0) == NONE ? 1 : 0;
    }

    public int inside(int time, int what, boolean most)
            throws IndexOutOfBoundsException, NoSuchElementException {
        if (!isTime(time) || !isWhat(what)) {
            throw new IndexOutOfBoundsException("no such TIME or what");
        }
        if (lookAhead(0) != NONE) {
            throw new NoSuchElementException("there is no TRUTH");
        }
        lookBackTo(time);
        return most ? spans.high(time, what) : spans.low(time, what);
    }

    public int could(int limit) {
        return firstAbove(limit, true);
    }

    public int surely(int limit) {
        return firstAbove(limit, false);
    }

    public int through(int door, int tick, boolean most)
            throws IndexOutOfBoundsException, NoSuchElementException {
        if (!isDoor(door) || !isTick(tick)) {
            throw new IndexOutOfBoundsException("no such DOOR or TICK");
        }
        if (lookAhead(0) != NONE) {
            throw new NoSuchElementException("there is no TRUTH");
        }
        // The row of TIME tick is left as what came before allows; that of the next TIME is cut
        // to what lies in a TRUTH: together they say what this TICK may have changed.
        lookBackTo(tick + 1);
        gatherChange(tick, 0, door);
        return most ? mostThrough(door, tick) : leastThrough(door, tick);
    }

    public int worse() {
        for (int more = 0; more <= MOST_WORSE; more++) {
            if (lookAhead(more) == NONE) {
                return more;
            }
        }
        return NONE;
    }

    public int quarrel() {
        return lookAhead(0);
    }

    public int look(int door, int what) throws IndexOutOfBoundsException, NoSuchElementException {
        if (!isDoor(door)) {
            throw new IndexOutOfBoundsException("no such DOOR");
        }
        switch (what) {
            case 0:
                return kinds[door];
            case 1:
                return misses[door];
            case 2:
                return doubles[door];
            case 3:
                return caps[door];
            case 4:
                return toldRows(door);
            case 5:
                return toldSum(toldIn, door);
            case 6:
                return toldSum(toldOut, door);
            default:
                throw new NoSuchElementException("no such what");
        }
    }

    public int count(int what) {
        switch (what) {
            case 0:
                return ticks;
            case 1:
                return doors;
            case 2:
                return checks;
            case 3:
                return allToldRows();
            default:
                return NONE;
        }
    }

    private void beginDay(int newTicks) {
        ticks = newTicks;
        doors = 0;
        checks = 0;
        Arrays.fill(toldIn, NONE);
        Arrays.fill(toldOut, NONE);
        Arrays.fill(startLow, 0);
        Arrays.fill(startHigh, 0);
    }

    private static boolean within(int number, int low, int high) {
        return low <= number && number <= high;
    }

    private boolean isDoor(int door) {
        return within(door, 0, doors - 1);
    }

    private boolean isTick(int tick) {
        return within(tick, 0, ticks - 1);
    }

    private boolean isTime(int time) {
        return within(time, 0, ticks);
    }

    private static boolean isWhat(int what) {
        return within(what, 0, WHATS - 1);
    }

    private static boolean isSpanInside(int low, int high) {
        return 0 <= low && low <= high && high <= MOST_INSIDE;
    }

    private static int place(int door, int tick) {
        return door * MOST_TICKS + tick;
    }

    private int toldRows(int door) {
        int rows = 0;
        for (int tick = 0; tick < ticks; tick++) {
            if (toldIn[place(door, tick)] != NONE) {
                rows++;
            }
        }
        return rows;
    }

    private int allToldRows() {
        int rows = 0;
        for (int door = 0; door < doors; door++) {
            rows += toldRows(door);
        }
        return rows;
    }

    private int toldSum(int[] told, int door) {
        int sum = 0;
        for (int tick = 0; tick < ticks; tick++) {
            int number = told[place(door, tick)];
            if (number != NONE) {
                sum += number;
            }
        }
        return sum;
    }

    private int leastPassed(int told, int door, int more) {
        return told == NONE ? 0 : Math.max(0, told - doubles[door] - more);
    }

    private int mostPassed(int told, int door, int more) {
        return told == NONE ? caps[door] : told + misses[door] + more;
    }

    private int leastNet(int door, int tick, int more) {
        int at = place(door, tick);
        return leastPassed(toldIn[at], door, more) - mostPassed(toldOut[at], door, more);
    }

    private int mostNet(int door, int tick, int more) {
        int at = place(door, tick);
        return mostPassed(toldIn[at], door, more) - leastPassed(toldOut[at], door, more);
    }

    /** Sums up in the row CHANGE what all DOORS but one (NONE: all) can change at a TICK. */
    private void gatherChange(int tick, int more, int butDoor) {
        for (int what = 0; what < WHATS; what++) {
            spans.put(CHANGE, what, 0, 0);
        }
        for (int door = 0; door < doors; door++) {
            if (door != butDoor) {
                addDoor(kinds[door], leastNet(door, tick, more), mostNet(door, tick, more));
            }
        }
    }

    private void addDoor(int kind, int least, int most) {
        if (kind == OUTSIDE_TO_A) {
            spans.widen(CHANGE, A, least, most);
            spans.widen(CHANGE, BOTH, least, most);
        } else if (kind == OUTSIDE_TO_B) {
            spans.widen(CHANGE, B, least, most);
            spans.widen(CHANGE, BOTH, least, most);
        } else {
            spans.widen(CHANGE, A, -most, -least);
            spans.widen(CHANGE, B, least, most);
        }
    }

    /**
     * Makes the row of each TIME by what is told up to it, each DOOR's MISS and DOUBLE being more
     * by a number; answers the first TIME at which nothing is left, or NONE: there is a TRUTH.
     */
    private int lookAhead(int more) {
        spans.put(0, A, startLow[A], startHigh[A]);
        spans.put(0, B, startLow[B], startHigh[B]);
        spans.put(0, BOTH, startLow[A] + startLow[B], startHigh[A] + startHigh[B]);
        for (int time = 0; time <= ticks; time++) {
            if (time > 0) {
                gatherChange(time - 1, more, NONE);
                spans.putSum(time, time - 1, CHANGE);
            }
            if (!keepAllowed(time)) {
                return time;
            }
        }
        return NONE;
    }

    private boolean keepAllowed(int time) {
        spans.cut(time, A, 0, ENDLESS);
        spans.cut(time, B, 0, ENDLESS);
        for (int check = 0; check < checks; check++) {
            if (checkTime[check] == time) {
                spans.cut(time, checkWhat[check], checkLow[check], checkHigh[check]);
            }
        }
        return spans.tighten(time);
    }

    /** Behind lookAhead: cuts the rows from the last TIME back to this one to what is in a TRUTH. */
    private void lookBackTo(int firstTime) {
        for (int time = ticks - 1; time >= firstTime; time--) {
            gatherChange(time, 0, NONE);
            spans.cutByDifference(time, time + 1, CHANGE);
            spans.tighten(time);
        }
    }

    private int firstAbove(int limit, boolean most) {
        if (!within(limit, 0, MOST_LIMIT) || lookAhead(0) != NONE) {
            return NONE;
        }
        lookBackTo(0);
        for (int time = 0; time <= ticks; time++) {
            int together = most ? spans.high(time, BOTH) : spans.low(time, BOTH);
            if (together > limit) {
                return time;
            }
        }
        return NONE;
    }

    /**
     * The least that a DOOR must have let through where the row CHANGE holds all the others: it
     * alone makes up the rest of the change, and each KIND bears on two of the three spans.
     */
    private int leastThrough(int door, int tick) {
        int least = leastNet(door, tick, 0);
        if (kinds[door] == OUTSIDE_TO_A) {
            return Math.max(least, Math.max(leastRest(tick, A), leastRest(tick, BOTH)));
        }
        if (kinds[door] == OUTSIDE_TO_B) {
            return Math.max(least, Math.max(leastRest(tick, B), leastRest(tick, BOTH)));
        }
        return Math.max(least, Math.max(leastRest(tick, B), -mostRest(tick, A)));
    }

    private int mostThrough(int door, int tick) {
        int most = mostNet(door, tick, 0);
        if (kinds[door] == OUTSIDE_TO_A) {
            return Math.min(most, Math.min(mostRest(tick, A), mostRest(tick, BOTH)));
        }
        if (kinds[door] == OUTSIDE_TO_B) {
            return Math.min(most, Math.min(mostRest(tick, B), mostRest(tick, BOTH)));
        }
        return Math.min(most, Math.min(mostRest(tick, B), -leastRest(tick, A)));
    }

    private int leastRest(int tick, int what) {
        return spans.low(tick + 1, what) - spans.high(tick, what) - spans.high(CHANGE, what);
    }

    private int mostRest(int tick, int what) {
        return spans.high(tick + 1, what) - spans.low(tick, what) - spans.low(CHANGE, what);
    }

    /**
     * Rows of three spans: of A, of B and of both together. A row stands for all pairs of whole
     * numbers (A, B) within its spans; it is tight when some pair reaches each end of each span.
     * Cutting such rows, and adding tight ones pair by pair, gives rows of this form again, so
     * that no TRUTH is lost and none is made up.
     */
    private static final class Spans {
        private final int[] lows;
        private final int[] highs;

        Spans() {
            lows = new int[SPAN_ROWS * WHATS];
            highs = new int[SPAN_ROWS * WHATS];
        }

        private static int at(int row, int what) {
            return row * WHATS + what;
        }

        int low(int row, int what) {
            return lows[at(row, what)];
        }

        int high(int row, int what) {
            return highs[at(row, what)];
        }

        void put(int row, int what, int low, int high) {
            int at = at(row, what);
            lows[at] = low;
            highs[at] = high;
        }

        void widen(int row, int what, int least, int most) {
            int at = at(row, what);
            lows[at] += least;
            highs[at] += most;
        }

        void cut(int row, int what, int low, int high) {
            int at = at(row, what);
            lows[at] = Math.max(lows[at], low);
            highs[at] = Math.min(highs[at], high);
        }

        void putSum(int row, int first, int second) {
            for (int what = 0; what < WHATS; what++) {
                put(row, what, low(first, what) + low(second, what),
                        high(first, what) + high(second, what));
            }
        }

        void cutByDifference(int row, int from, int less) {
            for (int what = 0; what < WHATS; what++) {
                cut(row, what, low(from, what) - high(less, what),
                        high(from, what) - low(less, what));
            }
        }

        /**
         * Draws each span in by the two others; answers whether a pair is left. Going round once
         * with the old ends is enough: of three spans no longer chain of reasons exists.
         */
        boolean tighten(int row) {
            int lowA = low(row, A);
            int highA = high(row, A);
            int lowB = low(row, B);
            int highB = high(row, B);
            int lowBoth = low(row, BOTH);
            int highBoth = high(row, BOTH);
            cut(row, A, lowBoth - highB, highBoth - lowB);
            cut(row, B, lowBoth - highA, highBoth - lowA);
            cut(row, BOTH, lowA + lowB, highA + highB);
            return isSpan(row, A) && isSpan(row, B) && isSpan(row, BOTH);
        }

        private boolean isSpan(int row, int what) {
            int at = at(row, what);
            return lows[at] <= highs[at];
        }
    }
}
