import java.util.Arrays;

/**
 * A test for each boundary sentence of the promises 17 to 21: signals. Numbers of points are sums of two
 * measurements, so means in 500 thousandths; on a frozenDesk 94, 188 and 282 are just at 1, 2 and 3.
 */
public final class EdgeSignalTests extends DeskChecks {
    private static final int NONE = ChartroomSpc.NONE;

    /** For each rule, as many points as it names, of which the last breaks it and no other. */
    private static final int[][] BREAKING = {
        {},
        {283},
        {1, 1, 1, 1, 1, 1, 1, 1, 1},
        {-2, -1, 0, 1, 2, 3},
        {1, 0, 1, 0, 1, 0, 1, 0, 1, 0, 1, 0, 1, 0},
        {0, 189, 189},
        {0, 95, 95, 95, 95},
        {94, 94, -94, -94, 94, 94, -94, -94, 94, 94, -94, -94, 94, 94, -94},
        {95, -95, 95, -95, 95, -95, 95, -95},
    };

    /** For each rule, a number that none of its runs can hold. */
    private static final int[] STRANGER = {0, 0, -1, 500, 500, 0, 0, 500, 0};

    public static void main(String[] args) {
        for (int rule = 1; rule <= 8; rule++) {
            eachRule(rule);
        }
        rule1();
        rule2();
        rule3();
        rule4();
        rule5();
        rule6();
        rule7();
        rule8();
        beyond();
        manyRules();
        fewPoints();
        excludedOnes();
        promises17To20Refused();
        promise19();
        promise20();
        promise21();
        promise21Excluded();
        finish();
    }

    private static void eachRule(int rule) {
        int[] run = BREAKING[rule];
        int last = run.length + 1;
        test("rule " + rule + ": the bit r for the rule r, with as many points as it names", () -> {
            due("points that it names", run.length, POINTS_OF_RULES[rule]);
            dueSignals("run", rules(rule), run);
        });
        test("rule " + rule + ": a rule that names more points than there are is not broken", () -> {
            for (int fewer = 1; fewer < run.length; fewer++) {
                dueSignals("the last " + fewer + " points alone", 0,
                        Arrays.copyOfRange(run, run.length - fewer, run.length));
                dueSignals("the first " + fewer + " points alone", 0, Arrays.copyOf(run, fewer));
            }
        });
        test("rule " + rule + ": the points of its phase alone", () -> {
            for (int ahead = 1; ahead < run.length; ahead++) {
                ChartroomSpc x = frozenDesk(Arrays.copyOf(run, ahead));
                x.newPhase();
                freezeLastPhase(x);
                halves(x, Arrays.copyOfRange(run, ahead, run.length));
                dueSignals(ahead + " points in the phase ahead", x, x.subgroups() - 1, 0);
                due(ahead + " points in the phase ahead: alarms", x.alarms(), 0);
            }
            ChartroomSpc x = frozenDesk(run);
            x.newPhase();
            freezeLastPhase(x);
            halves(x, run);
            dueSignals("all in the second phase", x, x.subgroups() - 1, rules(rule));
            due("all in both phases: alarms", x.alarms(), 2);
        });
        test("rule " + rule + ": subgroups that are excluded are no points", () -> {
            ChartroomSpc x = frozenDesk();
            for (int sum : run) {
                halves(x, STRANGER[rule], STRANGER[rule], sum);
                x.exclude(x.subgroups() - 3, 1);
                x.exclude(x.subgroups() - 2, 9);
            }
            int end = x.subgroups() - 1;
            due("signals", x.signals(end), rules(rule));
            due("signalsByWindows", x.signalsByWindows(end), rules(rule));
            for (int r = 1; r <= 8; r++) {
                due("firstOf(" + r + ")", x.firstOf(end, r), r == rule ? 4 : NONE);
            }
            due("alarms", x.alarms(), 1);
        });
        test("rule " + rule + ": not broken while one of the points is excluded, broken again when it is included",
            () -> eachPointExcluded(rule, run));
        test("rule " + rule + ": the points behind it are none of its last points", () -> {
            ChartroomSpc x = frozenDesk(run);
            halves(x, STRANGER[rule], STRANGER[rule], STRANGER[rule]);
            dueSignals("run", x, last, rules(rule));
            due("the last of all", x.signals(last + 3) & rules(rule), 0);
            dueSignals("run, asked again", x, last, rules(rule));
        });
        test("rule " + rule + ": an excluded subgroup behind a signal has none", () -> {
            ChartroomSpc x = frozenDesk(run);
            halves(x, run[run.length - 1]);
            x.exclude(last + 1, 1);
            dueSignals("excluded", x, last + 1, 0);
            dueSignals("the one ahead", x, last, rules(rule));
            due("alarms", x.alarms(), 1);
        });
    }

    private static void eachPointExcluded(int rule, int[] run) {
        for (int place = 0; place < run.length; place++) {
            ChartroomSpc x = frozenDesk(run);
            int last = run.length + 1;
            x.exclude(place + 2, 5);
            due("without " + place + ": signals", x.signals(last), 0);
            due("without " + place + ": signalsByWindows", x.signalsByWindows(last), 0);
            due("without " + place + ": firstOf", x.firstOf(last, rule), NONE);
            due("without " + place + ": alarms", x.alarms(), 0);
            x.exclude(place + 2, 0);
            dueSignals("with " + place + " again", x, last, rules(rule));
        }
    }

    // ---- the rules

    private static void rule1() {
        test("rule 1: just at 3 is not beyond 3", () -> dueSignals("just at 3", 0, 282));
        test("rule 1: greater than 3 widths' thirds is beyond 3", () -> dueSignals("just beyond 3", rules(1), 283));
        test("rule 1: if it is beyond 3, not one ahead", () -> dueSignals("the one ahead", 0, 283, 0));
        test("rule 1: needs one point alone", () -> {
            ChartroomSpc x = frozenDesk(-283);
            due("points", x.points(0), 1);
            due("firstOf", x.firstOf(2, 1), 2);
        });
        test("rule 1: with a width of 0, at the center and off it", () -> {
            ChartroomSpc x = desk(2, 5, 5, 5, 5);
            x.freeze(0);
            put(x, 5, 6, 5, 4, 5, 5);
            dueSignals("above", x, 2, rules(1));
            dueSignals("below", x, 3, rules(1));
            dueSignals("at the center", x, 0, 0);
            dueSignals("at the center", x, 4, 0);
        });
    }

    private static void rule2() {
        test("rule 2: 8 are too few, 9 enough, 10 more than enough", () -> {
            dueSignals("8", 0, 1, 1, 1, 1, 1, 1, 1, 1);
            dueSignals("9", rules(2), 1, 1, 1, 1, 1, 1, 1, 1, 1);
            dueSignals("10", rules(2), 1, 1, 1, 1, 1, 1, 1, 1, 1, 1);
        });
        for (int place = 0; place < 9; place++) {
            int odd = place;
            test("rule 2: not if one is at the center: " + place, () -> {
                int[] run = BREAKING[2].clone();
                run[odd] = 0;
                dueSignals("run", 0, run);
            });
            test("rule 2: not if one is on the other side: " + place, () -> {
                int[] run = BREAKING[2].clone();
                run[odd] = -1;
                dueSignals("run", 0, run);
            });
        }
        test("rule 2: 9 behind one at the center, or on the other side", () -> {
            dueSignals("center", rules(2), 0, 1, 1, 1, 1, 1, 1, 1, 1, 1);
            dueSignals("other side", rules(2), -1, 1, 1, 1, 1, 1, 1, 1, 1, 1);
        });
        test("rule 2: 4 behind one at the center are not counted on", () ->
            dueSignals("4, the center, 5", 0, 1, 1, 1, 1, 0, 1, 1, 1, 1, 1));
        test("rule 2: 9 at the center are on no side", () -> dueSignals("center", 0, 0, 0, 0, 0, 0, 0, 0, 0, 0));
        test("rule 2: the center is the rounded one", () -> {
            // the center of 2 / 6 is 333, and so is each mean of 1 / 3
            ChartroomSpc x = desk(3, 0, 0, 1, 0, 1, 0);
            x.freeze(0);
            for (int i = 0; i < 8; i++) {
                put(x, 1, 0, 0);
            }
            dueSignals("each at the center", x, 9, 0);
        });
    }

    /** The numbers that come of steps, the last being 0 (so that the rule 2 is not broken beside). */
    private static int[] bySteps(int... steps) {
        int[] sums = new int[steps.length + 1];
        for (int i = steps.length - 1; i >= 0; i--) {
            sums[i] = sums[i + 1] - steps[i];
        }
        return sums;
    }

    private static void rule3() {
        test("rule 3: of 5 each greater than the one before are too few", () -> dueSignals("5", 0, -2, -1, 0, 1, 2));
        test("rule 3: of 6 each greater than the one before", () -> dueSignals("6", rules(3), -2, -1, 0, 1, 2, 3));
        test("rule 3: of 7 the last 6", () -> dueSignals("7", rules(3), -2, -1, 0, 1, 2, 3, 4));
        test("rule 3: great steps and small ones", () -> dueSignals("6", rules(3), -90, 0, 1, 2, 90, 91));
        for (int step = 0; step < 5; step++) {
            int[] same = {1, 1, 1, 1, 1};
            same[step] = 0;
            test("rule 3: not if two are the same: step " + step, () -> dueSignals("run", 0, bySteps(same)));
            int[] back = {1, 1, 1, 1, 1};
            back[step] = -1;
            test("rule 3: not if one is less: step " + step, () -> dueSignals("run", 0, bySteps(back)));
        }
        test("rule 3: 6 behind a step back, or behind two the same", () -> {
            dueSignals("a step back", rules(3), bySteps(-1, 1, 1, 1, 1, 1));
            dueSignals("two the same", rules(3), bySteps(0, 1, 1, 1, 1, 1));
        });
        test("rule 3: 5 behind a step back, or behind two the same", () -> {
            dueSignals("a step back", 0, bySteps(1, -1, 1, 1, 1, 1));
            dueSignals("two the same", 0, bySteps(1, 0, 1, 1, 1, 1));
        });
        test("rule 3: 6 the same", () -> dueSignals("run", 0, 1, 1, 1, 1, 1, 1));
    }

    private static void rule4() {
        test("rule 4: 13 in turn are too few", () -> dueSignals("13", 0, Arrays.copyOf(BREAKING[4], 13)));
        test("rule 4: 14 in turn, up first or down first", () -> dueSignals("14", rules(4), BREAKING[4]));
        test("rule 4: 15 in turn (and near)", () ->
            dueSignals("15", rules(4, 7), 0, 1, 0, 1, 0, 1, 0, 1, 0, 1, 0, 1, 0, 1, 0));
        test("rule 4: up and down by other steps each time", () ->
            dueSignals("14", rules(4), 0, 9, 8, 10, -3, -2, -4, 5, 4, 6, 1, 8, 7, 20));
        for (int step = 0; step < 13; step++) {
            int[] same = inTurn(13);
            same[step] = 0;
            test("rule 4: not if two neighbours are the same: step " + step,
                () -> dueSignals("run", 0, bySteps(same)));
        }
        for (int step = 1; step < 13; step++) {
            int[] on = inTurn(13);
            for (int i = step; i < 13; i++) {
                on[i] = -on[i];
            }
            test("rule 4: not if a middle one is between the others: step " + step,
                () -> dueSignals("run", 0, bySteps(on)));
        }
        test("rule 4: 14 in turn behind two steps up, or behind two the same (and near)", () -> {
            int[] up = inTurn(14);
            up[0] = up[1];
            dueSignals("two steps the same way", rules(4, 7), bySteps(up));
            int[] same = inTurn(14);
            same[0] = 0;
            dueSignals("two the same", rules(4, 7), bySteps(same));
        });
        test("rule 4: 14 the same", () -> dueSignals("run", 0, new int[14]));
    }

    private static int[] inTurn(int count) {
        int[] steps = new int[count];
        for (int i = 0; i < count; i++) {
            steps[i] = i % 2 == 0 ? 1 : -1;
        }
        return steps;
    }

    /** All the runs of so many points that are beyond on the upper side, on the lower side, or on none. */
    private static void dueOften(int rule, int far, int least) {
        int points = POINTS_OF_RULES[rule];
        int runs = 1;
        for (int i = 0; i < points; i++) {
            runs *= 3;
        }
        for (int number = 0; number < runs; number++) {
            int[] run = new int[points];
            int rest = number;
            for (int i = 0; i < points; i++) {
                run[i] = (rest % 3 - 1) * far;
                rest /= 3;
            }
            int onThatSide = 0;
            for (int sum : run) {
                onThatSide += sum == run[points - 1] ? 1 : 0;
            }
            boolean isBroken = run[points - 1] != 0 && onThatSide >= least;
            ChartroomSpc x = frozenDesk(run);
            dueSignals(Arrays.toString(run), x, points + 1, isBroken ? rules(rule) : 0);
        }
    }

    private static void rule5() {
        test("rule 5: beyond 2, and at least 2 of the last 3 on that side", () -> dueOften(5, 189, 2));
        test("rule 5: just at 2 is not beyond 2", () -> {
            dueSignals("the one ahead", 0, 0, 188, 189);
            dueSignals("the last", 0, 189, 189, 188);
        });
        test("rule 5: needs 3 points", () -> {
            dueSignals("2 points", 0, 189, 189);
            dueSignals("3 points", rules(5), 0, 189, 189);
        });
        test("rule 5: the fourth one back is not looked at", () -> {
            dueSignals("189 ahead", 0, 189, 0, 0, 189);
            dueSignals("0 ahead", rules(5), 0, 189, 0, 189);
        });
    }

    private static void rule6() {
        test("rule 6: beyond 1, and at least 4 of the last 5 on that side", () -> dueOften(6, 95, 4));
        test("rule 6: just at 1 is not beyond 1", () -> {
            dueSignals("one of five", rules(6), 94, 95, 95, 95, 95);
            dueSignals("two of five", 0, 94, 94, 95, 95, 95);
            dueSignals("the last", 0, 95, 95, 95, 95, 94);
        });
        test("rule 6: needs 5 points", () -> {
            dueSignals("4 points", 0, 95, 95, 95, 95);
            dueSignals("5 points", rules(6), 0, 95, 95, 95, 95);
        });
        test("rule 6: the sixth one back is not looked at", () -> {
            dueSignals("95 ahead", 0, 95, 0, 0, 95, 95, 95);
            dueSignals("0 ahead", rules(6), 0, 95, 0, 95, 95, 95);
        });
    }

    private static void rule7() {
        test("rule 7: 14 near are too few, 15 enough, 16 more than enough", () -> {
            dueSignals("14", 0, Arrays.copyOf(BREAKING[7], 14));
            dueSignals("15", rules(7), BREAKING[7]);
            int[] more = Arrays.copyOf(BREAKING[7], 16);
            more[15] = -94;
            dueSignals("16", rules(7), more);
        });
        for (int place = 0; place < 15; place++) {
            int odd = place;
            test("rule 7: not if one is beyond 1 on a side: " + place, () -> {
                int[] upper = BREAKING[7].clone();
                upper[odd] = 95;
                dueSignals("upper side", 0, upper);
                int[] lower = BREAKING[7].clone();
                lower[odd] = -95;
                dueSignals("lower side", 0, lower);
            });
        }
        test("rule 7: a far one in the middle begins the count anew", () -> {
            int[] run = new int[23];
            System.arraycopy(BREAKING[7], 0, run, 0, 8);
            run[8] = 95;
            System.arraycopy(BREAKING[7], 0, run, 9, 14);
            dueSignals("8 near, a far one, 14 near", 0, run);
        });
        test("rule 7: 15 near behind a far one", () -> {
            int[] run = new int[16];
            run[0] = -95;
            System.arraycopy(BREAKING[7], 0, run, 1, 15);
            dueSignals("run", rules(7), run);
        });
        test("rule 7: 15 at the center", () -> dueSignals("run", rules(7), new int[15]));
    }

    private static void rule8() {
        test("rule 8: 7 far are too few, 8 enough, 9 more than enough", () -> {
            dueSignals("7", 0, Arrays.copyOf(BREAKING[8], 7));
            dueSignals("8", rules(8), BREAKING[8]);
            dueSignals("9", rules(8), 95, -95, 95, -95, 95, -95, 95, -95, 95);
        });
        for (int place = 0; place < 8; place++) {
            int odd = place;
            test("rule 8: not if one is just at 1: " + place, () -> {
                int[] run = BREAKING[8].clone();
                run[odd] = run[odd] > 0 ? 94 : -94;
                dueSignals("run", 0, run);
            });
        }
        test("rule 8: a near one in the middle begins the count anew", () ->
            dueSignals("4 far, a near one, 7 far", 0, 95, 95, -95, -95, 94, 95, 95, -95, -95, 95, 95, -95));
        test("rule 8: 8 far behind a near one", () ->
            dueSignals("run", rules(8), 94, 95, 95, -95, -95, 95, 95, -95, -95));
        test("rule 8: on one side it comes with the rule 6", () ->
            dueSignals("run", rules(6, 8), 95, 95, 95, 95, 95, 95, 95, 95));
    }

    // ---- what the rules share

    /** Three subgroups of 2 with the given first measurements and the range, frozen and excluded, then points. */
    private static ChartroomSpc offset(int range, int[] firsts, int sum, int points) {
        ChartroomSpc x = desk(2);
        for (int first : firsts) {
            put(x, first, first + range);
        }
        x.freeze(0);
        for (int i = 0; i < firsts.length; i++) {
            x.exclude(i, 1);
        }
        for (int i = 0; i < points; i++) {
            halves(x, sum);
        }
        return x;
    }

    private static void dueLast(String what, ChartroomSpc x, int want) {
        dueSignals(what, x, x.subgroups() - 1, want);
    }

    private static void beyond() {
        test("beyond 1: 3 * 15667 is greater than the width 47000", () -> {
            int[] firsts = {-12, -12, -11};
            due("center", offset(25, firsts, 0, 0).center(0), 833);
            due("width", offset(25, firsts, 0, 0).width(0), 47000);
            dueLast("upper", offset(25, firsts, 33, 8), rules(6, 8));
            dueLast("a step nearer", offset(25, firsts, 32, 8), 0);
        });
        test("beyond 1, lower side: 3 * 15667 is greater than the width 47000", () -> {
            int[] firsts = {-12, -12, -13};
            due("center", offset(25, firsts, 0, 0).center(0), 167);
            dueLast("lower", offset(25, firsts, -31, 8), rules(6, 8));
            dueLast("a step nearer", offset(25, firsts, -30, 8), 0);
        });
        test("beyond 2: 3 * 31333 is not greater than twice the width 47000", () -> {
            int[] firsts = {-12, -12, -13};
            dueLast("upper", offset(25, firsts, 63, 3), 0);
            dueLast("a step farther", offset(25, firsts, 64, 3), rules(5));
        });
        test("beyond 2, lower side: 3 * 31333 is not greater than twice the width 47000", () -> {
            int[] firsts = {-12, -12, -11};
            dueLast("lower", offset(25, firsts, -61, 3), 0);
            dueLast("a step farther", offset(25, firsts, -62, 3), rules(5));
        });
        test("beyond 2: 3 * 62667 is greater than twice the width 94000", () -> {
            int[] upper = {-25, -25, -24};
            due("center", offset(50, upper, 0, 0).center(0), 333);
            due("width", offset(50, upper, 0, 0).width(0), 94000);
            dueLast("upper", offset(50, upper, 126, 3), rules(5));
            int[] lower = {-25, -24, -24};
            due("center", offset(50, lower, 0, 0).center(0), 667);
            dueLast("lower", offset(50, lower, -124, 3), rules(5));
        });
        test("beyond 3: 3 * 47000 is not greater than 3 times the width 47000", () -> {
            int[] firsts = {-12, -13};
            due("center", offset(25, firsts, 0, 0).center(0), 0);
            due("width", offset(25, firsts, 0, 0).width(0), 47000);
            dueLast("upper", offset(25, firsts, 94, 1), 0);
            dueLast("lower", offset(25, firsts, -94, 1), 0);
            dueLast("upper, a step farther", offset(25, firsts, 95, 1), rules(1));
            dueLast("lower, a step farther", offset(25, firsts, -95, 1), rules(1));
        });
        test("beyond: the greatest distance, and the greatest width", () -> {
            ChartroomSpc x = desk(2, -9999, -9999, -9999, -9999);
            x.freeze(0);
            put(x, 9999, 9999);
            dueSignals("greatest distance", x, 2, rules(1));
            ChartroomSpc y = desk(2, -9999, 9999, 9999, -9999);
            y.freeze(0);
            put(y, 9999, 9999, -9999, -9999);
            dueSignals("greatest width, upper", y, 2, 0);
            dueSignals("greatest width, lower", y, 3, 0);
        });
    }

    private static void manyRules() {
        test("the set of rules: several at once", () ->
            dueSignals("9 beyond 3", rules(1, 2, 5, 6, 8), 283, 283, 283, 283, 283, 283, 283, 283, 283));
        test("the set of rules: several at once, rising", () ->
            dueSignals("9 rising beyond 3", rules(1, 2, 3, 5, 6, 8), 283, 284, 285, 286, 287, 288, 289, 290, 291));
        test("the set of rules: behind 60 subgroups", () -> {
            int[] run = new int[58];
            Arrays.fill(run, 1);
            ChartroomSpc x = frozenDesk(run);
            dueSignals("the last", x, 59, rules(2, 7));
            dueSignals("the 9th point", x, 10, rules(2));
            dueSignals("the 8th point", x, 9, 0);
            dueSignals("the 15th point", x, 16, rules(2, 7));
            dueSignals("the 14th point", x, 15, rules(2));
            due("alarms", x.alarms(), 50);
        });
    }

    private static void fewPoints() {
        test("a phase of one point: nothing is broken", () -> {
            ChartroomSpc x = desk(2, -9999, 9999);
            dueSignals("range 19998", x, 0, 0);
            due("alarms", x.alarms(), 0);
            ChartroomSpc y = desk(3, 0, 0, 1);
            dueSignals("a third", y, 0, 0);
        });
        test("a phase of two points, not frozen: they go by the limits of both", () -> {
            ChartroomSpc x = desk(2, 0, 0, 1, 1);
            dueSignals("the first", x, 0, rules(1));
            dueSignals("the second", x, 1, rules(1));
            due("alarms", x.alarms(), 2);
        });
        test("a phase that is not frozen: a later point moves the limits of the earlier ones", () -> {
            ChartroomSpc x = desk(2, 0, 0);
            dueSignals("alone", x, 0, 0);
            put(x, 1, 1);
            dueSignals("with a second", x, 0, rules(1));
            x.exclude(1, 1);
            dueSignals("alone again", x, 0, 0);
        });
        test("a phase that is frozen: a later point moves no limits", () -> {
            ChartroomSpc x = desk(2, 0, 0, 0, 0);
            x.freeze(0);
            put(x, 9, 9);
            dueSignals("the first", x, 0, 0);
            x.thaw(0);
            dueSignals("the first, thawed", x, 0, rules(1));
        });
    }

    private static void excludedOnes() {
        test("17 to 20: 0 or false for subgroups that are excluded, NONE for each rule", () -> {
            ChartroomSpc x = desk(2, 0, 0, 0, 0);
            x.freeze(0);
            put(x, -500, 900);
            dueSignals("included", x, 2, rules(1));
            due("included: isWide", x.isWide(2), true);
            x.exclude(2, 1);
            dueSignals("excluded", x, 2, 0);
            due("excluded: isWide", x.isWide(2), false);
            due("excluded: alarms", x.alarms(), 0);
            x.exclude(2, 9);
            dueSignals("for another reason", x, 2, 0);
            x.exclude(2, 0);
            dueSignals("included again", x, 2, rules(1));
            due("included again: isWide", x.isWide(2), true);
            due("included again: alarms", x.alarms(), 1);
        });
        test("17 to 20: 0, NONE and false in a phase that has no limits", () -> {
            ChartroomSpc x = desk(2, 0, 9);
            x.exclude(0, 1);
            dueThrows("center", STATE, () -> x.center(0));
            dueSignals("excluded", x, 0, 0);
            due("isWide", x.isWide(0), false);
            due("alarms", x.alarms(), 0);
        });
    }

    private static void dueNoSubgroup(ChartroomSpc x, int subgroup) {
        dueThrows("signals", INDEX, () -> x.signals(subgroup));
        dueThrows("signalsByWindows", INDEX, () -> x.signalsByWindows(subgroup));
        dueThrows("isWide", INDEX, () -> x.isWide(subgroup));
        for (int rule : new int[] {0, 1, 8, 9}) {
            dueThrows("firstOf rule " + rule, INDEX, () -> x.firstOf(subgroup, rule));
        }
    }

    private static void promises17To20Refused() {
        for (int subgroup : new int[] {0, 1, -1, Integer.MIN_VALUE, Integer.MAX_VALUE}) {
            test("17 to 20: throws IndexOutOfBoundsException if there is no such subgroup: " + subgroup + " of none",
                () -> {
                    dueNoSubgroup(desk(2), subgroup);
                    dueNoSubgroup(desk(2, 1), subgroup);
                });
        }
        for (int subgroup : new int[] {3, 4, -1, Integer.MIN_VALUE, Integer.MAX_VALUE}) {
            test("17 to 20: throws IndexOutOfBoundsException if there is no such subgroup: " + subgroup + " of 3",
                () -> {
                    ChartroomSpc x = frozenDesk(283);
                    dueNoSubgroup(x, subgroup);
                    put(x, 1);
                    dueNoSubgroup(x, subgroup);
                });
        }
        for (int subgroup : new int[] {60, 61, -1, Integer.MIN_VALUE, Integer.MAX_VALUE}) {
            test("17 to 20: throws IndexOutOfBoundsException if there is no such subgroup: " + subgroup + " of 60",
                () -> dueNoSubgroup(frozenDesk(new int[58]), subgroup));
        }
        for (int rule : new int[] {0, 9, -1, Integer.MIN_VALUE, Integer.MAX_VALUE}) {
            test("19: throws IndexOutOfBoundsException if there is no such rule: " + rule, () -> {
                ChartroomSpc x = frozenDesk(283);
                dueThrows("of a point", INDEX, () -> x.firstOf(2, rule));
                dueThrows("of one that is excluded", INDEX, () -> x.firstOf(0, rule));
            });
        }
    }

    private static void promise19() {
        test("19: of the last 1 point: itself", () -> due("firstOf", frozenDesk(0, 0, 283).firstOf(4, 1), 4));
        test("19: the first of the last points, though the run is longer", () -> {
            int[] run = new int[20];
            Arrays.fill(run, 1);
            ChartroomSpc x = frozenDesk(run);
            due("9 points", x.firstOf(21, 2), 13);
            due("15 points", x.firstOf(21, 7), 7);
        });
        test("19: the first of the last points, though it does not break the rule itself", () -> {
            ChartroomSpc x = frozenDesk(0, 189, 189);
            due("firstOf of 3", x.firstOf(4, 5), 2);
            ChartroomSpc y = frozenDesk(0, 95, 95, 95, 95);
            due("firstOf of 5", y.firstOf(6, 6), 2);
        });
        test("19: NONE is -1, if the rule is not broken", () -> {
            due("NONE", NONE, -1);
            ChartroomSpc x = frozenDesk(0);
            for (int rule = 1; rule <= 8; rule++) {
                due("firstOf(2, " + rule + ")", x.firstOf(2, rule), -1);
            }
        });
        test("19: NONE if the subgroup is excluded", () -> {
            ChartroomSpc x = frozenDesk(283, 283);
            x.exclude(3, 1);
            for (int rule = 1; rule <= 8; rule++) {
                due("firstOf(3, " + rule + ")", x.firstOf(3, rule), -1);
            }
            due("the one ahead", x.firstOf(2, 1), 2);
        });
        test("19: the first point may be the subgroup 0", () -> {
            ChartroomSpc x = desk(2);
            for (int i = 0; i < 6; i++) {
                put(x, 100 * i, 100 * i + 1000);
            }
            due("firstOf", x.firstOf(5, 3), 0);
        });
        test("19: the first subgroup of a phase may be the first point", () -> {
            ChartroomSpc x = desk(2, 0, 0);
            x.newPhase();
            for (int i = 0; i < 6; i++) {
                put(x, 100 * i, 100 * i + 1000);
            }
            due("firstOf", x.firstOf(6, 3), 1);
        });
    }

    private static void promise20() {
        test("20: just at the upper limit is not greater", () -> {
            ChartroomSpc x = desk(2, 0, 1000, 0, 1000);
            x.freeze(0);
            put(x, 0, 3267, 0, 3268);
            due("rangeLimit", x.rangeLimit(0), 3267000);
            due("3267", x.isWide(2), false);
            due("3268", x.isWide(3), true);
        });
        test("20: an upper limit between two ranges", () -> {
            ChartroomSpc x = desk(2, 0, 1, 0, 1);
            x.freeze(0);
            put(x, 0, 3, 0, 4);
            due("3 of 3.267", x.isWide(2), false);
            due("4 of 3.267", x.isWide(3), true);
        });
        test("20: a limit of 0: a range of 0 is not wide, one of 1 is", () -> {
            ChartroomSpc x = desk(2, 5, 5, 5, 5);
            x.freeze(0);
            put(x, 5, 5, 5, 6);
            due("range 0", x.isWide(2), false);
            due("range 1", x.isWide(3), true);
        });
        test("20: the greatest range", () -> {
            ChartroomSpc x = desk(6, 0, 0, 0, 0, 0, 0, -9999, 9999, 0, 0, 0, 0);
            // the mean range is 9999000 and the limit 2.004 times that
            due("of two", x.isWide(1), false);
            putZeros(x, 6);
            due("of three", x.isWide(1), true);
        });
        test("20: one point is never wide by its own limit", () -> {
            due("greatest", desk(2, -9999, 9999).isWide(0), false);
            due("least", desk(6, 0, 0, 0, 0, 0, 0).isWide(0), false);
        });
        test("20: the upper limit of its own phase", () -> {
            ChartroomSpc x = desk(2, 0, 1, 0, 1);
            x.freeze(0);
            x.newPhase();
            put(x, 0, 100);
            due("by its own", x.isWide(2), false);
            x.newPhase();
            put(x, 0, 1, 0, 1, 0, 1, 0, 100);
            due("amid small ranges", x.isWide(6), true);
            due("the one of the phase ahead", x.isWide(2), false);
        });
    }

    private static void promise21() {
        test("21: no subgroup, one begun, one", () -> {
            ChartroomSpc x = desk(2);
            due("none", x.alarms(), 0);
            put(x, 9);
            due("one begun", x.alarms(), 0);
            put(x, 9);
            due("one", x.alarms(), 0);
        });
        test("21: 60 subgroups, of which 58 break the rule 1", () -> {
            ChartroomSpc x = desk(2, 0, 0, 0, 0);
            x.freeze(0);
            for (int i = 0; i < 58; i++) {
                put(x, 1, 1);
            }
            due("alarms", x.alarms(), 58);
            x.exclude(59, 1);
            due("without the last", x.alarms(), 57);
        });
        test("21: all subgroups, the first and the last too", () -> {
            ChartroomSpc x = desk(2, 0, 0, 1, 1);
            due("alarms", x.alarms(), 2);
        });
        test("21: one that breaks several rules counts once", () ->
            due("alarms", frozenDesk(283, 283, 283).alarms(), 3));
        for (int rule = 1; rule <= 8; rule++) {
            int[] run = BREAKING[rule];
            test("21: breaks some rule: " + rule + " alone", () -> due("alarms", frozenDesk(run).alarms(), 1));
        }
        test("21: of all phases, each with its own limits", () -> {
            ChartroomSpc x = frozenDesk(283, 0, -283);
            x.newPhase();
            put(x, 0, 0, 283, 283);
            x.newPhase();
            due("two phases and an empty one", x.alarms(), 4);
            put(x, 5, 5);
            due("three phases", x.alarms(), 4);
        });
        test("21: of 10 phases", () -> {
            ChartroomSpc x = desk(2, 0, 0, 1, 1);
            for (int i = 1; i < 10; i++) {
                x.newPhase();
                put(x, 0, 0, 1, 1);
            }
            due("alarms", x.alarms(), 20);
        });
    }

    private static void promise21Excluded() {
        test("21: subgroups that are excluded break no rule", () -> {
            ChartroomSpc x = frozenDesk(283, 0, -283);
            due("included", x.alarms(), 2);
            x.exclude(2, 1);
            due("without the first", x.alarms(), 1);
            x.exclude(4, 1);
            due("without both", x.alarms(), 0);
            x.exclude(2, 0);
            due("with the first again", x.alarms(), 1);
        });
        test("21: all subgroups are excluded", () -> {
            ChartroomSpc x = desk(2, 0, 0, 1, 1);
            x.exclude(0, 1);
            x.exclude(1, 1);
            due("alarms", x.alarms(), 0);
        });
        test("21: asking changes nothing", () -> {
            ChartroomSpc x = frozenDesk(1, 1, 1, 1, 1, 1, 1, 1, 1);
            due("alarms", x.alarms(), 1);
            due("alarms again", x.alarms(), 1);
            dueSignals("the last", x, 10, rules(2));
            due("alarms behind signals", x.alarms(), 1);
        });
    }
}
