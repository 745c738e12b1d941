/** What the tests share: checks that are counted, and desks whose limits are known. */
abstract class DeskChecks {
    static final Class<?> INDEX = IndexOutOfBoundsException.class;
    static final Class<?> ARGUMENT = IllegalArgumentException.class;
    static final Class<?> STATE = IllegalStateException.class;

    /** How many last points the rules 1 to 8 look at. */
    static final int[] POINTS_OF_RULES = {0, 1, 9, 6, 14, 3, 5, 15, 8};

    private static int tests = 0;
    private static int checks = 0;
    private static int wrong = 0;

    interface Call {
        void run();
    }

    /** Runs one test; its name is the sentence of the document that it guards. */
    static void test(String sentence, Call body) {
        int before = wrong;
        tests++;
        try {
            body.run();
        } catch (RuntimeException e) {
            wrong++;
            System.out.println("a call threw " + e);
        }
        if (wrong != before) {
            System.out.println("    so it does not hold: " + sentence);
        }
    }

    static void finish() {
        System.out.println(tests + " tests, " + checks + " checks, " + wrong + " wrong");
        if (wrong != 0) {
            System.exit(1);
        }
    }

    static void due(String what, long got, long want) {
        checks++;
        if (got != want) {
            wrong++;
            System.out.println(what + " answered " + got + ", due is " + want);
        }
    }

    static void due(String what, boolean got, boolean want) {
        checks++;
        if (got != want) {
            wrong++;
            System.out.println(what + " answered " + got + ", due is " + want);
        }
    }

    static void due(String what, String got, String want) {
        checks++;
        if (!got.equals(want)) {
            wrong++;
            System.out.println(what + " answered\n    " + got + ", due is\n    " + want);
        }
    }

    static void dueThrows(String what, Class<?> want, Call call) {
        checks++;
        Class<?> got = null;
        try {
            call.run();
        } catch (RuntimeException e) {
            got = e.getClass();
        }
        if (got != want) {
            wrong++;
            System.out.println(what + " threw " + got + ", due is " + want);
        }
    }

    // ---- desks

    static void put(ChartroomSpc x, int... values) {
        for (int value : values) {
            x.put(value);
        }
    }

    static ChartroomSpc desk(int size, int... values) {
        ChartroomSpc x = new ChartroomSpc();
        x.begin(size);
        put(x, values);
        return x;
    }

    /** Puts as many measurements of 0 in as there may be. */
    static void putZeros(ChartroomSpc x, int count) {
        for (int i = 0; i < count; i++) {
            x.put(0);
        }
    }

    /** Puts subgroups of 2 with the given sums and range 0 or 1; a sum of h has the mean 500 * h. */
    static void halves(ChartroomSpc x, int... sums) {
        for (int sum : sums) {
            int lesser = Math.floorDiv(sum, 2);
            put(x, lesser, sum - lesser);
        }
    }

    /**
     * Size 2, the phase 0 frozen with the center 0 and the width 141000: beyond 1, 2, 3 is more than 94,
     * 188, 282 halves. Its first two subgroups are excluded, so the points begin with the subgroup 2.
     */
    static ChartroomSpc frozenDesk(int... sums) {
        ChartroomSpc x = desk(2);
        freezeLastPhase(x);
        halves(x, sums);
        return x;
    }

    /** Gives the last phase, which has no subgroups yet, the limits of frozenDesk by two excluded subgroups. */
    static void freezeLastPhase(ChartroomSpc x) {
        int first = x.subgroups();
        put(x, 0, 75, -75, 0);
        x.freeze(x.phases() - 1);
        x.exclude(first, 1);
        x.exclude(first + 1, 1);
    }

    static int[] mirrored(int... sums) {
        int[] other = new int[sums.length];
        for (int i = 0; i < sums.length; i++) {
            other[i] = -sums[i];
        }
        return other;
    }

    // ---- signals

    static int rules(int... rules) {
        int set = 0;
        for (int rule : rules) {
            set |= 1 << rule;
        }
        return set;
    }

    /** For desks whose points have no gaps up to the subgroup. */
    static void dueSignals(String what, ChartroomSpc x, int subgroup, int want) {
        due(what + ": signals(" + subgroup + ")", x.signals(subgroup), want);
        due(what + ": signalsByWindows(" + subgroup + ")", x.signalsByWindows(subgroup), want);
        for (int rule = 1; rule <= 8; rule++) {
            boolean isBroken = (want >> rule & 1) == 1;
            due(what + ": firstOf(" + subgroup + ", " + rule + ")", x.firstOf(subgroup, rule),
                    isBroken ? subgroup - POINTS_OF_RULES[rule] + 1 : ChartroomSpc.NONE);
        }
    }

    /** The rules that the last one of these points breaks, and the last one of their mirror image. */
    static void dueSignals(String what, int want, int... sums) {
        ChartroomSpc x = frozenDesk(sums);
        dueSignals(what, x, x.subgroups() - 1, want);
        ChartroomSpc y = frozenDesk(mirrored(sums));
        dueSignals(what + ", mirrored", y, y.subgroups() - 1, want);
    }

    // ---- numbers

    static long floorOf(long dividend, long divisor) {
        return Math.floorDiv(dividend, divisor);
    }
}
