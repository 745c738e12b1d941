/**
 * A desk for process control charts. Every row is made in the constructor and
 * used again, so that no call of the face makes an object (but for what it throws).
 */
public final class ChartroomSpc {
    public static final int NONE = -1;

    private static final int FIRST_SIZE = 5;
    private static final int MIN_SIZE = 2;
    private static final int MAX_SIZE = 6;
    private static final int MAX_VALUE = 9999;
    private static final int MAX_SUBGROUPS = 60;
    private static final int MAX_PHASES = 10;
    private static final int MAX_REASON = 9;
    private static final int FIRST_WEIGHT = 2;
    private static final int MAX_WEIGHT = 10;
    private static final int RULES = 8;
    private static final int MAX_WINDOW = 15;

    /** These three rows go by the size, from MIN_SIZE on. */
    private static final int[] WIDTH_FACTORS = {1880, 1023, 729, 577, 483};
    private static final int[] RANGE_FACTORS = {3267, 2574, 2282, 2114, 2004};
    private static final int[] SPREAD_DIVISORS = {1128, 1693, 2059, 2326, 2534};

    /** How many last points a rule looks at, from rule 1 on. */
    private static final int[] POINTS_OF_RULES = {1, 9, 6, 14, 3, 5, 15, 8};

    private int size;
    private int weight;

    private int begun;
    private int begunSum;
    private int begunLeast;
    private int begunGreatest;

    private int done;
    private final int[] sums;
    private final int[] rangeRow;
    private final int[] meanRow;
    private final int[] reasons;
    private final int[] phaseNumbers;

    private int phaseCount;
    private final Phase[] phaseRow;

    private final RunCounts counts;
    private final Window window;

    public ChartroomSpc() {
        sums = new int[MAX_SUBGROUPS];
        rangeRow = new int[MAX_SUBGROUPS];
        meanRow = new int[MAX_SUBGROUPS];
        reasons = new int[MAX_SUBGROUPS];
        phaseNumbers = new int[MAX_SUBGROUPS];
        phaseRow = new Phase[MAX_PHASES];
        for (int i = 0; i < MAX_PHASES; i++) {
            phaseRow[i] = new Phase();
        }
        counts = new RunCounts();
        window = new Window();
        restart(FIRST_SIZE);
    }

    // ---- measurements and phases

    public void begin(int size) throws IllegalArgumentException {
        if (size < MIN_SIZE || size > MAX_SIZE) {
            throw new IllegalArgumentException("size is out of range");
        }
        restart(size);
    }

    public boolean put(int value) throws IllegalArgumentException, IllegalStateException {
        if (!isMeasurement(value)) {
            throw new IllegalArgumentException("value is out of range");
        }
        if (done >= MAX_SUBGROUPS) {
            throw new IllegalStateException("all subgroups are done");
        }
        takeMeasurement(value);
        if (begun < size) {
            return false;
        }
        finishSubgroup();
        return true;
    }

    public int newPhase() throws IllegalStateException {
        if (phaseCount >= MAX_PHASES) {
            throw new IllegalStateException("there are no more phases");
        }
        if (begun > 0) {
            throw new IllegalStateException("a subgroup is begun and not done");
        }
        if (lastPhase().first >= done) {
            throw new IllegalStateException("the last phase has no subgroups");
        }
        phaseRow[phaseCount].restart(done);
        phaseCount++;
        return phaseCount - 1;
    }

    public void freeze(int phase) throws IndexOutOfBoundsException, IllegalStateException {
        Phase row = findPhase(phase);
        if (row.isFrozen) {
            throw new IllegalStateException("the phase is frozen");
        }
        if (row.pointCount < 2) {
            throw new IllegalStateException("the phase has too few points");
        }
        row.isFrozen = true;
    }

    public void thaw(int phase) throws IndexOutOfBoundsException, IllegalStateException {
        Phase row = findPhase(phase);
        if (!row.isFrozen) {
            throw new IllegalStateException("the phase is not frozen");
        }
        row.isFrozen = false;
        row.settle(size);
    }

    public int exclude(int subgroup, int reason) throws IndexOutOfBoundsException, IllegalArgumentException {
        checkSubgroup(subgroup);
        if (reason < 0 || reason > MAX_REASON) {
            throw new IllegalArgumentException("reason is out of range");
        }
        int before = reasons[subgroup];
        reasons[subgroup] = reason;
        if (before == 0 && reason != 0) {
            countPoint(subgroup, -1);
        } else if (before != 0 && reason == 0) {
            countPoint(subgroup, 1);
        }
        return before;
    }

    // ---- points

    public int subgroups() {
        return done;
    }

    public int phases() {
        return phaseCount;
    }

    public int mean(int subgroup) throws IndexOutOfBoundsException {
        checkSubgroup(subgroup);
        return meanRow[subgroup];
    }

    public int range(int subgroup) throws IndexOutOfBoundsException {
        checkSubgroup(subgroup);
        return rangeRow[subgroup];
    }

    public int phaseOf(int subgroup) throws IndexOutOfBoundsException {
        checkSubgroup(subgroup);
        return phaseNumbers[subgroup];
    }

    public int points(int phase) throws IndexOutOfBoundsException {
        return findPhase(phase).pointCount;
    }

    // ---- limits

    public int center(int phase) throws IndexOutOfBoundsException, IllegalStateException {
        return findLimits(phase).center;
    }

    public int width(int phase) throws IndexOutOfBoundsException, IllegalStateException {
        return findLimits(phase).width;
    }

    public int rangeLimit(int phase) throws IndexOutOfBoundsException, IllegalStateException {
        return findLimits(phase).rangeLimit;
    }

    // ---- signals; 0 or false for subgroups that are excluded

    public int signals(int subgroup) throws IndexOutOfBoundsException {
        checkSubgroup(subgroup);
        if (!isPoint(subgroup)) {
            return 0;
        }
        Phase phase = phaseHolding(subgroup);
        counts.restart();
        for (int i = phase.first; i <= subgroup; i++) {
            if (isPoint(i)) {
                counts.take(meanRow[i], phase);
            }
        }
        return counts.brokenRules();
    }

    public int signalsByWindows(int subgroup) throws IndexOutOfBoundsException {
        checkSubgroup(subgroup);
        if (!isPoint(subgroup)) {
            return 0;
        }
        Phase phase = phaseHolding(subgroup);
        lookBack(subgroup, phase);
        int broken = 0;
        for (int rule = 1; rule <= RULES; rule++) {
            if (window.breaks(rule, phase)) {
                broken |= 1 << rule;
            }
        }
        return broken;
    }

    public int firstOf(int subgroup, int rule) throws IndexOutOfBoundsException {
        checkSubgroup(subgroup);
        if (rule < 1 || rule > RULES) {
            throw new IndexOutOfBoundsException("there is no such rule");
        }
        if (!isPoint(subgroup)) {
            return NONE;
        }
        Phase phase = phaseHolding(subgroup);
        lookBack(subgroup, phase);
        return window.breaks(rule, phase) ? window.subgroupAt(pointsOfRule(rule) - 1) : NONE;
    }

    public boolean isWide(int subgroup) throws IndexOutOfBoundsException {
        checkSubgroup(subgroup);
        if (!isPoint(subgroup)) {
            return false;
        }
        return 1000 * rangeRow[subgroup] > phaseHolding(subgroup).rangeLimit;
    }

    public int alarms() {
        int found = 0;
        int number = NONE;
        for (int i = 0; i < done; i++) {
            if (phaseNumbers[i] != number) {
                number = phaseNumbers[i];
                counts.restart();
            }
            if (isPoint(i)) {
                counts.take(meanRow[i], phaseHolding(i));
                found += counts.brokenRules() != 0 ? 1 : 0;
            }
        }
        return found;
    }

    // ---- weighted and cumulative charts

    public int setWeight(int tenths) throws IllegalArgumentException {
        if (tenths < 1 || tenths > MAX_WEIGHT) {
            throw new IllegalArgumentException("tenths is out of range");
        }
        int before = weight;
        weight = tenths;
        return before;
    }

    public int weighted(int subgroup) throws IndexOutOfBoundsException, IllegalStateException {
        checkPoint(subgroup);
        Phase phase = phaseHolding(subgroup);
        int level = phase.center;
        for (int i = phase.first; i <= subgroup; i++) {
            if (isPoint(i)) {
                level += Math.floorDiv(weight * (meanRow[i] - level), 10);
            }
        }
        return level;
    }

    public int cumulative(int subgroup, boolean isUpper) throws IndexOutOfBoundsException, IllegalStateException {
        checkPoint(subgroup);
        Phase phase = phaseHolding(subgroup);
        int allowance = Math.floorDiv(Math.floorDiv(phase.width, 3), 2);
        int total = 0;
        for (int i = phase.first; i <= subgroup; i++) {
            if (isPoint(i)) {
                int away = isUpper ? meanRow[i] - phase.center : phase.center - meanRow[i];
                total = Math.max(0, total + away - allowance);
            }
        }
        return total;
    }

    // ---- capability

    public long capability(int phase, int lowest, int highest, boolean isCentered)
            throws IndexOutOfBoundsException, IllegalArgumentException, IllegalStateException {
        Phase row = findPhase(phase);
        if (!isMeasurement(lowest) || !isMeasurement(highest) || highest < lowest) {
            throw new IllegalArgumentException("lowest or highest is out of range");
        }
        if (!row.hasLimits()) {
            throw new IllegalStateException("the phase has no limits");
        }
        long spread = floored(1000L * row.meanRange, bySize(SPREAD_DIVISORS, size));
        if (spread == 0) {
            throw new IllegalStateException("the spread is 0");
        }
        long low = 1000L * lowest;
        long high = 1000L * highest;
        if (!isCentered) {
            return floored(1000L * (high - low), 6 * spread);
        }
        return floored(1000L * Math.min(high - row.center, row.center - low), 3 * spread);
    }

    // ---- what the calls share

    private void restart(int newSize) {
        size = newSize;
        weight = FIRST_WEIGHT;
        begun = 0;
        done = 0;
        phaseCount = 1;
        phaseRow[0].restart(0);
    }

    private void takeMeasurement(int value) {
        boolean isFirst = begun == 0;
        begunSum = isFirst ? value : begunSum + value;
        begunLeast = isFirst ? value : Math.min(begunLeast, value);
        begunGreatest = isFirst ? value : Math.max(begunGreatest, value);
        begun++;
    }

    private void finishSubgroup() {
        int subgroup = done;
        sums[subgroup] = begunSum;
        rangeRow[subgroup] = begunGreatest - begunLeast;
        meanRow[subgroup] = (int) rounded(1000L * begunSum, size);
        reasons[subgroup] = 0;
        phaseNumbers[subgroup] = phaseCount - 1;
        begun = 0;
        done++;
        countPoint(subgroup, 1);
    }

    /** Counts a subgroup into the points of its phase (1) or out of them (-1). */
    private void countPoint(int subgroup, int sign) {
        Phase phase = phaseHolding(subgroup);
        phase.pointCount += sign;
        phase.sum += sign * sums[subgroup];
        phase.rangeSum += sign * rangeRow[subgroup];
        phase.settle(size);
    }

    /** Puts the last points behind a point into the window, the point itself first. */
    private void lookBack(int subgroup, Phase phase) {
        window.restart();
        for (int i = subgroup; i >= phase.first && !window.isFull(); i--) {
            if (isPoint(i)) {
                window.add(i, meanRow[i]);
            }
        }
    }

    private void checkSubgroup(int subgroup) {
        if (subgroup < 0 || subgroup >= done) {
            throw new IndexOutOfBoundsException("there is no such subgroup");
        }
    }

    private void checkPoint(int subgroup) {
        checkSubgroup(subgroup);
        if (!isPoint(subgroup)) {
            throw new IllegalStateException("the subgroup is excluded");
        }
    }

    private boolean isPoint(int subgroup) {
        return subgroup >= 0 && subgroup < done && reasons[subgroup] == 0;
    }

    private Phase findPhase(int phase) {
        if (phase < 0 || phase >= phaseCount) {
            throw new IndexOutOfBoundsException("there is no such phase");
        }
        return phaseRow[phase];
    }

    private Phase findLimits(int phase) {
        Phase row = findPhase(phase);
        if (!row.hasLimits()) {
            throw new IllegalStateException("the phase has no limits");
        }
        return row;
    }

    /** Each number in the row is one of a phase; the test keeps the index from ever throwing. */
    private Phase phaseHolding(int subgroup) {
        int number = phaseNumbers[subgroup];
        return number >= 0 && number < phaseCount ? phaseRow[number] : phaseRow[0];
    }

    private Phase lastPhase() {
        return phaseRow[phaseCount - 1];
    }

    private static boolean isMeasurement(int value) {
        return value >= -MAX_VALUE && value <= MAX_VALUE;
    }

    private static int bySize(int[] row, int size) {
        int place = size - MIN_SIZE;
        return place >= 0 && place < row.length ? row[place] : 0;
    }

    private static int pointsOfRule(int rule) {
        return rule >= 1 && rule <= POINTS_OF_RULES.length ? POINTS_OF_RULES[rule - 1] : 0;
    }

    /** No caller brings a divisor below 1; the test keeps the division from ever throwing. */
    private static long floored(long dividend, long divisor) {
        return divisor > 0 ? Math.floorDiv(dividend, divisor) : 0;
    }

    /** To the nearest whole number, a half upwards. */
    private static long rounded(long dividend, long divisor) {
        return floored(2 * dividend + divisor, 2 * divisor);
    }

    private static int direction(int from, int to) {
        return to > from ? 1 : to < from ? -1 : 0;
    }

    /**
     * A phase with the sums of its points, and its limits: those of its points now,
     * or, while it is frozen, those of the moment of freezing.
     */
    private static final class Phase {
        int first;
        int pointCount;
        int sum;
        int rangeSum;
        boolean isFrozen;
        int center;
        int meanRange;
        int width;
        int rangeLimit;

        void restart(int newFirst) {
            first = newFirst;
            pointCount = 0;
            sum = 0;
            rangeSum = 0;
            isFrozen = false;
        }

        boolean hasLimits() {
            return isFrozen || pointCount > 0;
        }

        /** Finds the limits anew, unless they are frozen or there are none. */
        void settle(int size) {
            if (isFrozen || pointCount == 0) {
                return;
            }
            center = (int) rounded(1000L * sum, (long) size * pointCount);
            long meanOfRanges = rounded(1000L * rangeSum, pointCount);
            meanRange = (int) meanOfRanges;
            width = (int) rounded(bySize(WIDTH_FACTORS, size) * meanOfRanges, 1000);
            rangeLimit = (int) rounded(bySize(RANGE_FACTORS, size) * meanOfRanges, 1000);
        }

        int sideOfCenter(int mean) {
            return direction(center, mean);
        }

        /** The side on which a mean is beyond a multiple of the width: 1 upper, -1 lower, 0 none. */
        int sideBeyond(int mean, int multiple) {
            if (3 * (mean - center) > multiple * width) {
                return 1;
            }
            return 3 * (center - mean) > multiple * width ? -1 : 0;
        }
    }

    /** The counts that are kept from point to point of a phase. */
    private static final class RunCounts {
        private int taken;
        private int lastMean;
        private int lastDirection;
        private int centerSide;
        private int onSide;
        private int steady;
        private int turning;
        private int near;
        private int far;
        private int sideBeyond3;
        private int sideBeyond2;
        private int sideBeyond1;
        /** One bit for each of the last points, the newest lowest: was it beyond there? */
        private int upper2;
        private int lower2;
        private int upper1;
        private int lower1;

        void restart() {
            taken = 0;
            lastMean = 0;
            lastDirection = 0;
            centerSide = 0;
            onSide = 0;
            steady = 0;
            turning = 0;
            near = 0;
            far = 0;
            upper2 = 0;
            lower2 = 0;
            upper1 = 0;
            lower1 = 0;
            sideBeyond3 = 0;
            sideBeyond2 = 0;
            sideBeyond1 = 0;
        }

        void take(int mean, Phase phase) {
            takeCenterSide(phase.sideOfCenter(mean));
            takeDirection(taken == 0 ? 0 : direction(lastMean, mean));
            takeSidesBeyond(mean, phase);
            lastMean = mean;
            taken++;
        }

        private void takeCenterSide(int side) {
            onSide = side == 0 ? 0 : side == centerSide ? onSide + 1 : 1;
            centerSide = side;
        }

        /** A point that does not go on with a run may still be the second of a new one. */
        private void takeDirection(int direction) {
            if (direction == 0) {
                steady = 1;
                turning = 1;
            } else {
                steady = direction == lastDirection ? steady + 1 : 2;
                turning = direction == -lastDirection ? turning + 1 : 2;
            }
            lastDirection = direction;
        }

        private void takeSidesBeyond(int mean, Phase phase) {
            sideBeyond3 = phase.sideBeyond(mean, 3);
            sideBeyond2 = phase.sideBeyond(mean, 2);
            sideBeyond1 = phase.sideBeyond(mean, 1);
            upper2 = pushed(upper2, sideBeyond2 > 0, 3);
            lower2 = pushed(lower2, sideBeyond2 < 0, 3);
            upper1 = pushed(upper1, sideBeyond1 > 0, 5);
            lower1 = pushed(lower1, sideBeyond1 < 0, 5);
            near = sideBeyond1 == 0 ? near + 1 : 0;
            far = sideBeyond1 != 0 ? far + 1 : 0;
        }

        private static int pushed(int bits, boolean isSet, int kept) {
            return ((bits << 1) | (isSet ? 1 : 0)) & ((1 << kept) - 1);
        }

        int brokenRules() {
            return bitOf(1, sideBeyond3 != 0)
                    | bitOf(2, onSide >= pointsOfRule(2))
                    | bitOf(3, steady >= pointsOfRule(3))
                    | bitOf(4, turning >= pointsOfRule(4))
                    | bitOf(5, taken >= pointsOfRule(5) && isOften(sideBeyond2, upper2, lower2, 2))
                    | bitOf(6, taken >= pointsOfRule(6) && isOften(sideBeyond1, upper1, lower1, 4))
                    | bitOf(7, near >= pointsOfRule(7))
                    | bitOf(8, far >= pointsOfRule(8));
        }

        private static int bitOf(int rule, boolean isBroken) {
            return isBroken ? 1 << rule : 0;
        }

        private static boolean isOften(int side, int upper, int lower, int least) {
            return side != 0 && Integer.bitCount(side > 0 ? upper : lower) >= least;
        }
    }

    /** The last points of a phase, from a point backwards. */
    private static final class Window {
        private final int[] numbers = new int[MAX_WINDOW];
        private final int[] levels = new int[MAX_WINDOW];
        private int count;

        void restart() {
            count = 0;
        }

        boolean isFull() {
            return count >= MAX_WINDOW;
        }

        void add(int subgroup, int mean) {
            if (isFull()) {
                return;
            }
            numbers[count] = subgroup;
            levels[count] = mean;
            count++;
        }

        int subgroupAt(int place) {
            return place >= 0 && place < count ? numbers[place] : NONE;
        }

        boolean breaks(int rule, Phase phase) {
            int last = pointsOfRule(rule);
            if (last < 1 || last > count) {
                return false;
            }
            switch (rule) {
                case 1: return phase.sideBeyond(levels[0], 3) != 0;
                case 2: return isOnOneSide(last, phase);
                case 3: return isSteady(last);
                case 4: return isTurning(last);
                case 5: return isOften(last, 2, 2, phase);
                case 6: return isOften(last, 1, 4, phase);
                case 7: return beyondSome(last, phase) == 0;
                case 8: return beyondSome(last, phase) == last;
                default: return false;
            }
        }

        private boolean isOnOneSide(int last, Phase phase) {
            int side = phase.sideOfCenter(levels[0]);
            for (int i = 1; i < last; i++) {
                if (phase.sideOfCenter(levels[i]) != side) {
                    return false;
                }
            }
            return side != 0;
        }

        private boolean isSteady(int last) {
            int way = direction(levels[1], levels[0]);
            for (int i = 1; i + 1 < last; i++) {
                if (direction(levels[i + 1], levels[i]) != way) {
                    return false;
                }
            }
            return way != 0;
        }

        private boolean isTurning(int last) {
            int way = direction(levels[1], levels[0]);
            for (int i = 1; i + 1 < last; i++) {
                way = -way;
                if (direction(levels[i + 1], levels[i]) != way) {
                    return false;
                }
            }
            return way != 0;
        }

        private boolean isOften(int last, int multiple, int least, Phase phase) {
            int side = phase.sideBeyond(levels[0], multiple);
            int found = 0;
            for (int i = 0; i < last; i++) {
                found += phase.sideBeyond(levels[i], multiple) == side ? 1 : 0;
            }
            return side != 0 && found >= least;
        }

        /** How many of the last points are beyond 1 on some side. */
        private int beyondSome(int last, Phase phase) {
            int found = 0;
            for (int i = 0; i < last; i++) {
                found += phase.sideBeyond(levels[i], 1) != 0 ? 1 : 0;
            }
            return found;
        }
    }
}
