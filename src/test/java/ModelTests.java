import java.util.ArrayList;
import java.util.List;
import java.util.Random;

/** Long runs of calls, the class beside a slow model that follows the words of the document. */
public final class ModelTests {
    private static final int DESKS = 600;
    private static final int EDGE_DESKS = 400;
    /** One less than an object is used for, as a begin may be ahead of them. */
    private static final int CALLS = 511;

    private static int wrong = 0;

    public static void main(String[] args) {
        int[] broken = new int[9];
        for (int i = 0; i < DESKS; i++) {
            runDesk(new Random(i), i, false, broken);
        }
        int[] brokenAtEdges = new int[9];
        for (int i = DESKS; i < DESKS + EDGE_DESKS; i++) {
            runDesk(new Random(i), i, true, brokenAtEdges);
        }
        for (int rule = 1; rule <= 8; rule++) {
            if (broken[rule] < 100) {
                wrong++;
                System.out.println("rule " + rule + " was broken but " + broken[rule] + " times: the runs are too tame");
            }
        }
        System.out.println("rules broken: " + java.util.Arrays.toString(broken));
        System.out.println(DESKS + EDGE_DESKS + " desks of " + CALLS + " calls, " + wrong + " wrong answers");
        if (wrong != 0) {
            System.exit(1);
        }
    }

    private static void runDesk(Random random, int desk, boolean isAtEdges, int[] broken) {
        ChartroomSpc x = new ChartroomSpc();
        Model model = new Model();
        Feed feed = new Feed(random);
        boolean isFilling = random.nextBoolean();
        if (random.nextInt(8) != 0) {
            int size = 2 + random.nextInt(isFilling ? 2 : 5);
            x.begin(size);
            model.begin(size);
        }
        StringBuilder log = new StringBuilder();
        for (int call = 0; call < CALLS; call++) {
            boolean isPut = isFilling && call < 200 || random.nextInt(3) == 0;
            Ask ask = isPut ? new Ask(1, isAtEdges ? pick(random, EDGE_VALUES) : feed.next(model.size), 0, 0, false)
                    : isAtEdges ? edgeAsk(random, model) : anyAsk(random, model);
            String got = ask.answer(x);
            String want = ask.answer(model);
            log.append(ask).append(" -> ").append(got).append('\n');
            if (!got.equals(want)) {
                wrong++;
                System.out.println("desk " + desk + ": " + ask + " answered " + got + ", due is " + want);
                if (wrong == 1) {
                    System.out.println(log);
                }
                return;
            }
            if (ask.kind == 16 && !got.startsWith("throws")) {
                for (int rule = 1; rule <= 8; rule++) {
                    broken[rule] += Integer.parseInt(got) >> rule & 1;
                }
            }
        }
    }

    private static Ask anyAsk(Random random, Model model) {
        int roll = random.nextInt(100);
        int kind;
        if (roll < 2) {
            kind = 2;
        } else if (roll < 5) {
            kind = 3;
        } else if (roll < 7) {
            kind = 4;
        } else if (roll < 13) {
            kind = 5;
        } else if (random.nextInt(2000) == 0) {
            kind = 0;
        } else {
            kind = 7 + random.nextInt(17);
        }
        int subgroup = random.nextInt(30) == 0 ? random.nextInt() : random.nextInt(model.groups.size() + 2) - 1;
        int phase = random.nextInt(30) == 0 ? random.nextInt() : random.nextInt(model.firsts.size() + 2) - 1;
        int lowest = random.nextInt(20400) - 10200;
        int highest = random.nextInt(3) == 0 ? random.nextInt(20400) - 10200 : lowest + random.nextInt(2000);
        switch (kind) {
            case 0: return new Ask(kind, 1 + random.nextInt(7), 0, 0, false);
            case 3: case 4: case 12: case 13: case 14: case 15:
                return new Ask(kind, phase, 0, 0, false);
            case 5: return new Ask(kind, subgroup, random.nextInt(3) == 0 ? random.nextInt(13) - 1 : 0, 0, false);
            case 18: return new Ask(kind, subgroup, random.nextInt(10), 0, false);
            case 21: return new Ask(kind, random.nextInt(12), 0, 0, false);
            case 23: return random.nextBoolean()
                    ? new Ask(24, phase, lowest, highest, random.nextBoolean())
                    : new Ask(23, subgroup, 0, 0, random.nextBoolean());
            default: return new Ask(kind, subgroup, 0, 0, false);
        }
    }

    private static final int MIN = Integer.MIN_VALUE;
    private static final int MAX = Integer.MAX_VALUE;
    private static final int[] EDGE_VALUES = {-9999, -9999, -9998, -1, 0, 0, 0, 1, 9998, 9999, 9999, -10000, 10000,
        MIN, MAX};
    private static final int[] EDGE_BOUNDS = {-9999, -9998, -1, 0, 1, 9998, 9999, -10000, 10000, MIN, MAX};
    private static final int[] EDGE_REASONS = {0, 0, 0, 0, 1, 9, -1, 10, MIN, MAX};

    private static int pick(Random random, int... from) {
        return from[random.nextInt(from.length)];
    }

    /** A call as of anyAsk, but its arguments are such as a range ends with, or one beyond. */
    private static Ask edgeAsk(Random random, Model model) {
        Ask ask = anyAsk(random, model);
        int done = model.groups.size();
        int phases = model.firsts.size();
        int subgroup = pick(random, 0, 1, done - 2, done - 1, done - 1, done, done + 1, -1, 59, 60, MIN, MAX);
        int phase = pick(random, 0, 0, phases - 1, phases - 1, phases, phases + 1, -1, 9, 10, MIN, MAX);
        switch (ask.kind) {
            case 0: return new Ask(0, pick(random, 1, 2, 2, 6, 7, -1, 0, MIN, MAX), 0, 0, false);
            case 2: case 7: case 8: case 20: return ask;
            case 3: case 4: case 12: case 13: case 14: case 15: return new Ask(ask.kind, phase, 0, 0, false);
            case 5: return new Ask(5, subgroup, pick(random, EDGE_REASONS), 0, false);
            case 18: return new Ask(18, subgroup, pick(random, 1, 2, 3, 4, 5, 6, 7, 8, 0, 9, -1, MIN, MAX), 0, false);
            case 21: return new Ask(21, pick(random, 1, 2, 10, 0, 11, -1, MIN, MAX), 0, 0, false);
            case 24: return new Ask(24, phase, pick(random, EDGE_BOUNDS), pick(random, EDGE_BOUNDS), ask.flag);
            default: return new Ask(ask.kind, subgroup, 0, 0, ask.flag);
        }
    }

    /** Measurements in stretches that bring the rules about. */
    private static final class Feed {
        private final Random random;
        private int mode;
        private int left;
        private int level;
        private int spread;
        private int puts;

        Feed(Random random) {
            this.random = random;
        }

        int next(int size) {
            if (left == 0) {
                left = 20 + random.nextInt(60);
                mode = random.nextInt(7);
                level = random.nextInt(200) - 100;
                spread = 1 + random.nextInt(40);
            }
            left--;
            puts++;
            int noise = random.nextInt(2 * spread + 1) - spread;
            switch (mode) {
                case 0: return level + noise;
                case 1: return level + noise / 8 + puts;
                case 2: return level + noise / 8 - puts;
                case 3: return level + (puts / size % 2 == 0 ? spread : -spread) + noise / 8;
                case 4: return level;
                case 5: return level + (puts % 2 == 0 ? spread : -spread) + noise / 8;
                default: return random.nextInt(50) == 0 ? random.nextInt(20200) - 10100 : noise;
            }
        }
    }

    private static final class Refused extends RuntimeException {
        private static final long serialVersionUID = 1;

        Refused(Class<?> kind) {
            super(kind.getSimpleName());
        }
    }

    /** One call, to be put to the class and to the model. */
    private static final class Ask {
        final int kind;
        final int a;
        final int b;
        final int c;
        final boolean flag;

        Ask(int kind, int a, int b, int c, boolean flag) {
            this.kind = kind;
            this.a = a;
            this.b = b;
            this.c = c;
            this.flag = flag;
        }

        @Override
        public String toString() {
            return "call " + kind + "(" + a + ", " + b + ", " + c + ", " + flag + ")";
        }

        String answer(ChartroomSpc x) {
            try {
                switch (kind) {
                    case 0: x.begin(a); return "";
                    case 1: return "" + x.put(a);
                    case 2: return "" + x.newPhase();
                    case 3: x.freeze(a); return "";
                    case 4: x.thaw(a); return "";
                    case 5: return "" + x.exclude(a, b);
                    case 7: return "" + x.subgroups();
                    case 8: return "" + x.phases();
                    case 9: return "" + x.mean(a);
                    case 10: return "" + x.range(a);
                    case 11: return "" + x.phaseOf(a);
                    case 12: return "" + x.points(a);
                    case 13: return "" + x.center(a);
                    case 14: return "" + x.width(a);
                    case 15: return "" + x.rangeLimit(a);
                    case 16: return "" + x.signals(a);
                    case 17: return "" + x.signalsByWindows(a);
                    case 18: return "" + x.firstOf(a, b);
                    case 19: return "" + x.isWide(a);
                    case 20: return "" + x.alarms();
                    case 21: return "" + x.setWeight(a);
                    case 22: return "" + x.weighted(a);
                    case 23: return "" + x.cumulative(a, flag);
                    default: return "" + x.capability(a, b, c, flag);
                }
            } catch (IndexOutOfBoundsException | IllegalArgumentException | IllegalStateException e) {
                return "throws." + e.getClass().getSimpleName();
            }
        }

        String answer(Model x) {
            try {
                switch (kind) {
                    case 0: x.begin(a); return "";
                    case 1: return "" + x.put(a);
                    case 2: return "" + x.newPhase();
                    case 3: x.freeze(a); return "";
                    case 4: x.thaw(a); return "";
                    case 5: return "" + x.exclude(a, b);
                    case 7: return "" + x.groups.size();
                    case 8: return "" + x.firsts.size();
                    case 9: x.checkGroup(a); return "" + x.mean(a);
                    case 10: x.checkGroup(a); return "" + x.range(a);
                    case 11: x.checkGroup(a); return "" + x.phaseOf(a);
                    case 12: x.checkPhase(a); return "" + x.pointsOf(a).size();
                    case 13: x.checkPhase(a); return "" + x.limits(a)[0];
                    case 14: x.checkPhase(a); return "" + x.limits(a)[2];
                    case 15: x.checkPhase(a); return "" + x.limits(a)[3];
                    case 16: case 17: x.checkGroup(a); return "" + x.signals(a);
                    case 18: return "" + x.firstOf(a, b);
                    case 19: x.checkGroup(a); return "" + x.isWide(a);
                    case 20: return "" + x.alarms();
                    case 21: return "" + x.setWeight(a);
                    case 22: return "" + x.weighted(a);
                    case 23: return "" + x.cumulative(a, flag);
                    default: return "" + x.capability(a, b, c, flag);
                }
            } catch (Refused e) {
                return "throws." + e.getMessage();
            }
        }
    }

    /** The document's words, without any thought of speed. */
    private static final class Model {
        private static final long[] F = {0, 0, 1880, 1023, 729, 577, 483};
        private static final long[] G = {0, 0, 3267, 2574, 2282, 2114, 2004};
        private static final long[] E = {0, 0, 1128, 1693, 2059, 2326, 2534};
        private static final int[] J = {0, 1, 9, 6, 14, 3, 5, 15, 8};

        int size;
        int weight;
        List<Integer> begun;
        List<List<Integer>> groups;
        List<Integer> reasons;
        List<Integer> firsts;
        List<long[]> frozen;

        Model() {
            clear(5);
        }

        private void clear(int newSize) {
            size = newSize;
            weight = 2;
            begun = new ArrayList<>();
            groups = new ArrayList<>();
            reasons = new ArrayList<>();
            firsts = new ArrayList<>(List.of(0));
            frozen = new ArrayList<>();
            frozen.add(null);
        }

        private static void refuse(boolean isSo, Class<?> kind) {
            if (isSo) {
                throw new Refused(kind);
            }
        }

        private static long floored(long dividend, long divisor) {
            long quotient = dividend / divisor;
            return quotient * divisor > dividend ? quotient - 1 : quotient;
        }

        private static long rounded(long dividend, long divisor) {
            return floored(2 * dividend + divisor, 2 * divisor);
        }

        void checkGroup(int subgroup) {
            refuse(subgroup < 0 || subgroup >= groups.size(), IndexOutOfBoundsException.class);
        }

        void checkPhase(int phase) {
            refuse(phase < 0 || phase >= firsts.size(), IndexOutOfBoundsException.class);
        }

        void begin(int newSize) {
            refuse(newSize < 2 || newSize > 6, IllegalArgumentException.class);
            clear(newSize);
        }

        boolean put(int value) {
            refuse(value < -9999 || value > 9999, IllegalArgumentException.class);
            refuse(groups.size() == 60, IllegalStateException.class);
            begun.add(value);
            if (begun.size() < size) {
                return false;
            }
            groups.add(begun);
            reasons.add(0);
            begun = new ArrayList<>();
            return true;
        }

        int newPhase() {
            boolean isEmpty = firsts.get(firsts.size() - 1) == groups.size();
            refuse(isEmpty || !begun.isEmpty() || firsts.size() == 10, IllegalStateException.class);
            firsts.add(groups.size());
            frozen.add(null);
            return firsts.size() - 1;
        }

        void freeze(int phase) {
            checkPhase(phase);
            refuse(frozen.get(phase) != null || pointsOf(phase).size() < 2, IllegalStateException.class);
            frozen.set(phase, limits(phase));
        }

        void thaw(int phase) {
            checkPhase(phase);
            refuse(frozen.get(phase) == null, IllegalStateException.class);
            frozen.set(phase, null);
        }

        int exclude(int subgroup, int reason) {
            checkGroup(subgroup);
            refuse(reason < 0 || reason > 9, IllegalArgumentException.class);
            return reasons.set(subgroup, reason);
        }

        private long sum(int subgroup) {
            long total = 0;
            for (int value : groups.get(subgroup)) {
                total += value;
            }
            return total;
        }

        long mean(int subgroup) {
            return rounded(1000 * sum(subgroup), size);
        }

        long range(int subgroup) {
            List<Integer> all = groups.get(subgroup);
            return java.util.Collections.max(all) - java.util.Collections.min(all);
        }

        int phaseOf(int subgroup) {
            int phase = 0;
            for (int i = 0; i < firsts.size(); i++) {
                phase = firsts.get(i) <= subgroup ? i : phase;
            }
            return phase;
        }

        List<Integer> pointsOf(int phase) {
            List<Integer> points = new ArrayList<>();
            for (int i = 0; i < groups.size(); i++) {
                if (phaseOf(i) == phase && reasons.get(i) == 0) {
                    points.add(i);
                }
            }
            return points;
        }

        /** The center, the mean range, the width and the upper limit of ranges. */
        long[] limits(int phase) {
            if (frozen.get(phase) != null) {
                return frozen.get(phase);
            }
            List<Integer> points = pointsOf(phase);
            refuse(points.isEmpty(), IllegalStateException.class);
            long total = 0;
            long ranges = 0;
            for (int point : points) {
                total += sum(point);
                ranges += range(point);
            }
            long meanRange = rounded(1000 * ranges, points.size());
            return new long[] {rounded(1000 * total, (long) size * points.size()), meanRange,
                rounded(F[size] * meanRange, 1000), rounded(G[size] * meanRange, 1000)};
        }

        private List<Integer> pointsUpTo(int subgroup) {
            List<Integer> points = pointsOf(phaseOf(subgroup));
            return points.subList(0, points.indexOf(subgroup) + 1);
        }

        private boolean isBroken(int subgroup, int rule) {
            if (reasons.get(subgroup) != 0) {
                return false;
            }
            List<Integer> points = pointsUpTo(subgroup);
            if (points.size() < J[rule]) {
                return false;
            }
            long[] limits = limits(phaseOf(subgroup));
            List<Long> away = new ArrayList<>();
            for (int point : points.subList(points.size() - J[rule], points.size())) {
                away.add(mean(point) - limits[0]);
            }
            return isBroken(away, limits[2], rule) || isBroken(mirrored(away), limits[2], rule);
        }

        private static List<Long> mirrored(List<Long> away) {
            List<Long> other = new ArrayList<>();
            for (long x : away) {
                other.add(-x);
            }
            return other;
        }

        /** Looks at the upper side, at rising, and at a first step upwards alone. */
        private static boolean isBroken(List<Long> away, long width, int rule) {
            int j = away.size();
            long last = away.get(j - 1);
            int above = 0;
            int rising = 0;
            int turns = 0;
            int upper1 = 0;
            int upper2 = 0;
            int some1 = 0;
            for (int i = 0; i < j; i++) {
                long x = away.get(i);
                above += x > 0 ? 1 : 0;
                upper1 += 3 * x > width ? 1 : 0;
                upper2 += 3 * x > 2 * width ? 1 : 0;
                some1 += 3 * Math.abs(x) > width ? 1 : 0;
                if (i > 0) {
                    long step = x - away.get(i - 1);
                    rising += step > 0 ? 1 : 0;
                    turns += (i % 2 == 1 ? step > 0 : step < 0) ? 1 : 0;
                }
            }
            switch (rule) {
                case 1: return 3 * last > 3 * width;
                case 2: return above == 9;
                case 3: return rising == 5;
                case 4: return turns == 13;
                case 5: return 3 * last > 2 * width && upper2 >= 2;
                case 6: return 3 * last > width && upper1 >= 4;
                case 7: return some1 == 0;
                default: return some1 == 8;
            }
        }

        int signals(int subgroup) {
            int set = 0;
            for (int rule = 1; rule <= 8; rule++) {
                set += isBroken(subgroup, rule) ? 1 << rule : 0;
            }
            return set;
        }

        int firstOf(int subgroup, int rule) {
            checkGroup(subgroup);
            refuse(rule < 1 || rule > 8, IndexOutOfBoundsException.class);
            if (!isBroken(subgroup, rule)) {
                return -1;
            }
            List<Integer> points = pointsUpTo(subgroup);
            return points.get(points.size() - J[rule]);
        }

        boolean isWide(int subgroup) {
            return reasons.get(subgroup) == 0 && 1000 * range(subgroup) > limits(phaseOf(subgroup))[3];
        }

        int alarms() {
            int found = 0;
            for (int i = 0; i < groups.size(); i++) {
                found += signals(i) != 0 ? 1 : 0;
            }
            return found;
        }

        int setWeight(int tenths) {
            refuse(tenths < 1 || tenths > 10, IllegalArgumentException.class);
            int before = weight;
            weight = tenths;
            return before;
        }

        long weighted(int subgroup) {
            checkGroup(subgroup);
            refuse(reasons.get(subgroup) != 0, IllegalStateException.class);
            long z = limits(phaseOf(subgroup))[0];
            for (int point : pointsUpTo(subgroup)) {
                z += floored(weight * (mean(point) - z), 10);
            }
            return z;
        }

        long cumulative(int subgroup, boolean isUpper) {
            checkGroup(subgroup);
            refuse(reasons.get(subgroup) != 0, IllegalStateException.class);
            long[] limits = limits(phaseOf(subgroup));
            long h = floored(floored(limits[2], 3), 2);
            long total = 0;
            for (int point : pointsUpTo(subgroup)) {
                long x = mean(point);
                total = Math.max(0, total + (isUpper ? x - limits[0] - h : limits[0] - x - h));
            }
            return total;
        }

        long capability(int phase, int lowest, int highest, boolean isCentered) {
            checkPhase(phase);
            refuse(lowest < -9999 || lowest > 9999 || highest < lowest || highest > 9999,
                    IllegalArgumentException.class);
            long[] limits = limits(phase);
            long d = floored(1000 * limits[1], E[size]);
            refuse(d == 0, IllegalStateException.class);
            long m = Math.min(1000L * highest - limits[0], limits[0] - 1000L * lowest);
            return isCentered ? floored(1000 * m, 3 * d)
                    : floored(1000 * (1000L * highest - 1000L * lowest), 6 * d);
        }
    }
}
