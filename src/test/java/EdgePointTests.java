/** A test for each boundary sentence of the promises 8 to 16: points and limits. */
public final class EdgePointTests extends DeskChecks {
    private static final int[] WIDTH_FACTORS = {0, 0, 1880, 1023, 729, 577, 483};
    private static final int[] RANGE_FACTORS = {0, 0, 3267, 2574, 2282, 2114, 2004};

    public static void main(String[] args) {
        promises8And9();
        promise10();
        promise11();
        promise12();
        promise13();
        promises10To12Refused();
        promise14();
        promise15();
        promise16();
        promises13To16Refused();
        finish();
    }

    /** 60 subgroups of the size, all their measurements the same. */
    private static ChartroomSpc sixty(int size, int value) {
        ChartroomSpc x = desk(size);
        for (int i = 0; i < 60 * size; i++) {
            x.put(value);
        }
        return x;
    }

    private static ChartroomSpc tenPhases() {
        ChartroomSpc x = desk(2, 0, 0);
        for (int i = 1; i < 10; i++) {
            x.newPhase();
            put(x, i, i);
        }
        return x;
    }

    private static void promises8And9() {
        test("8: how many subgroups are done: none, one begun, one, one and one begun", () -> {
            ChartroomSpc x = desk(3);
            due("none", x.subgroups(), 0);
            put(x, 1, 2);
            due("one begun", x.subgroups(), 0);
            put(x, 3);
            due("one", x.subgroups(), 1);
            put(x, 4);
            due("one and one begun", x.subgroups(), 1);
        });
        test("8: how many subgroups are done: 60", () -> due("subgroups", sixty(2, 0).subgroups(), 60));
        test("8: how many subgroups are done: those that are excluded too, in all phases", () -> {
            ChartroomSpc x = tenPhases();
            due("in 10 phases", x.subgroups(), 10);
            for (int i = 0; i < 10; i++) {
                x.exclude(i, 1);
            }
            due("all of them excluded", x.subgroups(), 10);
        });
        test("9: how many phases there are: one at first", () -> {
            ChartroomSpc x = new ChartroomSpc();
            due("new", x.phases(), 1);
            put(x, 1, 2, 3, 4, 5);
            due("with a subgroup", x.phases(), 1);
        });
        test("9: how many phases there are: one without subgroups too", () -> {
            ChartroomSpc x = desk(2, 1, 1);
            x.newPhase();
            due("phases", x.phases(), 2);
        });
        test("9: how many phases there are: 10", () -> due("phases", tenPhases().phases(), 10));
    }

    private static void promise10() {
        test("10: rounded to the nearest: thirds", () -> {
            ChartroomSpc x = desk(3, 1, 0, 0, 1, 1, 0);
            due("a third", x.mean(0), 333);
            due("two thirds", x.mean(1), 667);
        });
        test("10: rounded to the nearest, also below 0: thirds", () -> {
            ChartroomSpc x = desk(3, -1, 0, 0, -1, -1, 0);
            due("a third", x.mean(0), -333);
            due("two thirds", x.mean(1), -667);
        });
        test("10: rounded to the nearest: sixths", () -> {
            ChartroomSpc x = desk(6, 0, 0, 0, 0, 0, 1, 0, 0, 0, 0, 0, -1, 0, 0, 0, 1, 2, 2, 0, 0, 0, -1, -2, -2);
            due("a sixth", x.mean(0), 167);
            due("a sixth below 0", x.mean(1), -167);
            due("five sixths", x.mean(2), 833);
            due("five sixths below 0", x.mean(3), -833);
        });
        test("10: without a rest, also below 0", () -> {
            due("a half", desk(2, 0, 1).mean(0), 500);
            due("a half below 0", desk(2, 0, -1).mean(0), -500);
            due("a quarter below 0", desk(4, 0, 0, 0, -1).mean(0), -250);
            due("a fifth below 0", desk(5, 0, 0, 0, 0, -1).mean(0), -200);
            due("0", desk(5, 0, 0, 0, 0, 0).mean(0), 0);
        });
        for (int size = 2; size <= 6; size++) {
            int due = size;
            test("10: the greatest and the least mean, of " + size, () -> {
                ChartroomSpc x = desk(due);
                for (int i = 0; i < due; i++) {
                    x.put(9999);
                }
                for (int i = 0; i < due; i++) {
                    x.put(-9999);
                }
                due("greatest", x.mean(0), 9999000);
                due("least", x.mean(1), -9999000);
            });
        }
        test("10: each subgroup has its own mean, that of 60 too", () -> {
            ChartroomSpc x = desk(2);
            for (int i = 0; i < 60; i++) {
                put(x, i, i);
            }
            due("mean(0)", x.mean(0), 0);
            due("mean(59)", x.mean(59), 59000);
            dueThrows("mean(60)", INDEX, () -> x.mean(60));
        });
        test("10: the mean of one that is excluded, or of a frozen phase", () -> {
            ChartroomSpc x = frozenDesk(3);
            due("excluded", x.mean(0), 37500);
            due("frozen", x.mean(2), 1500);
        });
    }

    private static void promise11() {
        test("11: its greatest measurement less its least one: a range of 0", () -> {
            due("above 0", desk(2, 7, 7).range(0), 0);
            due("below 0", desk(2, -7, -7).range(0), 0);
        });
        test("11: its greatest measurement less its least one: the greatest range", () -> {
            due("least first", desk(2, -9999, 9999).range(0), 19998);
            due("greatest first", desk(2, 9999, -9999).range(0), 19998);
        });
        test("11: its greatest measurement less its least one: at each place", () -> {
            for (int size = 2; size <= 6; size++) {
                for (int place = 0; place < size; place++) {
                    int[] values = new int[size];
                    values[place] = 5;
                    due("greatest at " + place + " of " + size, desk(size, values).range(0), 5);
                    values[place] = -5;
                    due("least at " + place + " of " + size, desk(size, values).range(0), 5);
                }
            }
        });
        test("11: its greatest measurement less its least one: all above 0, all below 0", () -> {
            due("above", desk(3, 5, 3, 7).range(0), 4);
            due("below", desk(3, -5, -3, -7).range(0), 4);
        });
        test("11: the range knows nothing of the subgroup ahead", () -> {
            ChartroomSpc x = desk(2, -9999, 9999, 3, 4);
            due("range(0)", x.range(0), 19998);
            due("range(1)", x.range(1), 1);
        });
        test("11: the range of one that is excluded", () -> due("range", frozenDesk().range(0), 75));
    }

    private static void promise12() {
        test("12: each phase goes from its first subgroup up to the one ahead of the next phase", () -> {
            ChartroomSpc x = desk(2, 0, 0, 1, 1);
            x.newPhase();
            put(x, 2, 2);
            x.newPhase();
            put(x, 3, 3, 4, 4, 5, 5);
            int[] want = {0, 0, 1, 2, 2, 2};
            for (int i = 0; i < want.length; i++) {
                due("phaseOf(" + i + ")", x.phaseOf(i), want[i]);
            }
        });
        test("12: 10 phases, and 60 subgroups", () -> {
            ChartroomSpc x = tenPhases();
            putZeros(x, 100);
            for (int i = 0; i < 60; i++) {
                due("phaseOf(" + i + ")", x.phaseOf(i), Math.min(i, 9));
            }
        });
        test("12: the phase of one that is excluded", () -> {
            ChartroomSpc x = tenPhases();
            x.exclude(0, 1);
            x.exclude(9, 1);
            due("phaseOf(0)", x.phaseOf(0), 0);
            due("phaseOf(9)", x.phaseOf(9), 9);
        });
    }

    private static void promise13() {
        test("13: its subgroups that are done: none, one begun, one, 60", () -> {
            ChartroomSpc x = desk(2);
            due("none", x.points(0), 0);
            put(x, 1);
            due("one begun", x.points(0), 0);
            put(x, 1);
            due("one", x.points(0), 1);
            due("60", sixty(2, 0).points(0), 60);
        });
        test("13: and not excluded: one, all, one again", () -> {
            ChartroomSpc x = desk(2, 1, 1, 2, 2);
            x.exclude(0, 1);
            due("one excluded", x.points(0), 1);
            x.exclude(0, 2);
            due("for another reason", x.points(0), 1);
            x.exclude(1, 1);
            due("all", x.points(0), 0);
            x.exclude(1, 0);
            due("one again", x.points(0), 1);
        });
        test("13: of that phase alone", () -> {
            ChartroomSpc x = desk(2, 1, 1, 2, 2);
            x.newPhase();
            due("the new one", x.points(1), 0);
            put(x, 3, 3);
            due("points(0)", x.points(0), 2);
            due("points(1)", x.points(1), 1);
            x.exclude(2, 1);
            due("points(0)", x.points(0), 2);
            due("points(1)", x.points(1), 0);
        });
        test("13: of a phase that is frozen: those of now", () -> {
            ChartroomSpc x = frozenDesk(1, 2, 3);
            due("points", x.points(0), 3);
            x.exclude(0, 0);
            due("points", x.points(0), 4);
        });
    }

    private static void promises10To12Refused() {
        for (int subgroup : new int[] {0, -1, 1, Integer.MIN_VALUE, Integer.MAX_VALUE}) {
            test("10 to 12: throws IndexOutOfBoundsException if there is no such subgroup: " + subgroup + " of none",
                () -> dueNoSubgroup(desk(2), subgroup));
            test("10 to 12: throws IndexOutOfBoundsException if there is no such subgroup: " + subgroup + ", one begun",
                () -> dueNoSubgroup(desk(2, 1), subgroup));
        }
        for (int subgroup : new int[] {1, 2, -1, Integer.MIN_VALUE, Integer.MAX_VALUE}) {
            test("10 to 12: throws IndexOutOfBoundsException if there is no such subgroup: " + subgroup + " of one",
                () -> dueNoSubgroup(desk(2, 1, 1), subgroup));
            test("10 to 12: throws IndexOutOfBoundsException if there is no such subgroup: " + subgroup
                + " of one and one begun", () -> dueNoSubgroup(desk(2, 1, 1, 2), subgroup));
        }
        for (int subgroup : new int[] {60, 61, -1, Integer.MIN_VALUE, Integer.MAX_VALUE}) {
            test("10 to 12: throws IndexOutOfBoundsException if there is no such subgroup: " + subgroup + " of 60",
                () -> dueNoSubgroup(sixty(2, 1), subgroup));
        }
    }

    private static void dueNoSubgroup(ChartroomSpc x, int subgroup) {
        dueThrows("mean", INDEX, () -> x.mean(subgroup));
        dueThrows("range", INDEX, () -> x.range(subgroup));
        dueThrows("phaseOf", INDEX, () -> x.phaseOf(subgroup));
    }

    private static void promise14() {
        // 1000 / 16 is 62.5
        test("14: a half is rounded upwards", () -> {
            ChartroomSpc x = desk(4);
            put(x, 1);
            putZeros(x, 15);
            due("center of 62.5", x.center(0), 63);
        });
        test("14: a half is rounded upwards, also below 0", () -> {
            ChartroomSpc x = desk(4);
            put(x, -1);
            putZeros(x, 15);
            due("center of -62.5", x.center(0), -62);
        });
        test("14: rounded to the nearest, also below 0", () -> {
            due("a third", desk(3, 1, 0, 0).center(0), 333);
            due("two thirds", desk(3, 1, 1, 0).center(0), 667);
            due("a third below 0", desk(3, -1, 0, 0).center(0), -333);
            due("two thirds below 0", desk(3, -1, -1, 0).center(0), -667);
        });
        test("14: of the sum of all measurements, not of the means", () -> {
            // the means are 333, 333 and 0
            due("center", desk(3, 1, 0, 0, 1, 0, 0, 0, 0, 0).center(0), 222);
            // 1000 * 4 / 6 is 666.67, though the means 333 and 1000 have 666.5
            due("center", desk(3, 1, 0, 0, 1, 1, 1).center(0), 667);
        });
        test("14: the greatest center", () -> due("center", sixty(6, 9999).center(0), 9999000));
        test("14: the least center", () -> due("center", sixty(6, -9999).center(0), -9999000));
        test("14: of one point it is its mean, below 0 too", () -> {
            due("above", desk(6, 0, 0, 0, 0, 0, 1).center(0), 167);
            due("below", desk(6, 0, 0, 0, 0, 0, -1).center(0), -167);
        });
        test("14: a subgroup that is begun is not in it", () -> {
            ChartroomSpc x = desk(2, 1, 1, 9999);
            due("center", x.center(0), 1000);
            due("width", x.width(0), 0);
        });
        test("14: of the points of that phase alone", () -> {
            ChartroomSpc x = tenPhases();
            for (int phase = 0; phase < 10; phase++) {
                due("center(" + phase + ")", x.center(phase), 1000 * phase);
            }
        });
        test("14: throws IllegalStateException if it has no limits", () -> {
            ChartroomSpc x = desk(2);
            dueNoLimits("no subgroup", x, 0);
            put(x, 1);
            dueNoLimits("one begun", x, 0);
            put(x, 1);
            x.newPhase();
            dueNoLimits("a new phase", x, 1);
            x.exclude(0, 1);
            dueNoLimits("all excluded", x, 0);
            put(x, 2, 2);
            due("a point of another phase: center(1)", x.center(1), 2000);
            dueNoLimits("a point of another phase", x, 0);
        });
        test("14: a phase that is frozen has limits without points", () -> {
            ChartroomSpc x = desk(2, 0, 2, 4, 8);
            x.freeze(0);
            x.exclude(0, 1);
            x.exclude(1, 1);
            due("center", x.center(0), 3500);
            due("width", x.width(0), 5640);
            due("rangeLimit", x.rangeLimit(0), 9801);
        });
    }

    private static void dueNoLimits(String what, ChartroomSpc x, int phase) {
        dueThrows(what + ": center", STATE, () -> x.center(phase));
        dueThrows(what + ": width", STATE, () -> x.width(phase));
        dueThrows(what + ": rangeLimit", STATE, () -> x.rangeLimit(phase));
    }

    /** A desk of the size whose points have these ranges, with 0 as their least measurement. */
    private static ChartroomSpc ranges(int size, int... ranges) {
        ChartroomSpc x = desk(size);
        for (int range : ranges) {
            putZeros(x, size - 1);
            x.put(range);
        }
        return x;
    }

    private static void promise15() {
        for (int size = 2; size <= 6; size++) {
            int due = size;
            test("15: f for the sizes 2 to 6: " + size, () -> {
                due("of the range 1", ranges(due, 1).width(0), WIDTH_FACTORS[due]);
                due("of the range 1000", ranges(due, 1000).width(0), 1000 * WIDTH_FACTORS[due]);
            });
            test("15: the greatest width, of " + size,
                () -> due("width", greatestSpread(due).width(0), 19998 * WIDTH_FACTORS[due]));
        }
        test("15: a half is rounded upwards", () -> {
            // 577 * 500 / 1000 is 288.5, and 729 * 500 / 1000 is 364.5
            due("width of 288.5", ranges(5, 1, 0).width(0), 289);
            due("width of 364.5", ranges(4, 1, 0).width(0), 365);
        });
        test("15: the mean range is rounded, a half upwards", () -> {
            int[] sixteen = new int[16];
            sixteen[5] = 1;
            // 1000 / 16 is 62.5, rounded 63: 1880 * 63 / 1000 is 118.44; of 62 it would be 116.56
            due("width of 62.5", ranges(2, sixteen).width(0), 118);
        });
        test("15: the mean range is rounded to the nearest", () -> {
            // 333: 626.04, and 667: 1253.96, where 666 would have 1252.08
            due("a third", ranges(2, 1, 0, 0).width(0), 626);
            due("two thirds", ranges(2, 1, 1, 0).width(0), 1254);
        });
        test("15: a width of 0", () -> {
            due("of one point", ranges(2, 0).width(0), 0);
            due("of 60", sixty(2, 5).width(0), 0);
        });
        test("15: of 60 points, of which one has the range 1", () -> {
            int[] values = new int[60];
            values[59] = 1;
            // 1000 / 60 is 16.67, rounded 17: 31.96
            due("width", ranges(2, values).width(0), 32);
        });
    }

    private static ChartroomSpc greatestSpread(int size) {
        ChartroomSpc x = desk(size);
        for (int i = 0; i < 60; i++) {
            x.put(-9999);
            putZeros(x, size - 2);
            x.put(9999);
        }
        return x;
    }

    private static void promise16() {
        for (int size = 2; size <= 6; size++) {
            int due = size;
            test("16: g for the sizes 2 to 6: " + size, () -> {
                due("of the range 1", ranges(due, 1).rangeLimit(0), RANGE_FACTORS[due]);
                due("of the range 1000", ranges(due, 1000).rangeLimit(0), 1000 * RANGE_FACTORS[due]);
            });
            test("16: the greatest upper limit of ranges, of " + size,
                () -> due("rangeLimit", greatestSpread(due).rangeLimit(0), 19998 * RANGE_FACTORS[due]));
        }
        // 3267 * 500 / 1000 is 1633.5
        test("16: a half is rounded upwards", () -> due("rangeLimit", ranges(2, 1, 0).rangeLimit(0), 1634));
        test("16: rounded to the nearest", () -> {
            // 3267 * 333 / 1000 is 1087.91, and 3267 * 667 / 1000 is 2179.09
            due("a third", ranges(2, 1, 0, 0).rangeLimit(0), 1088);
            due("two thirds", ranges(2, 1, 1, 0).rangeLimit(0), 2179);
        });
        test("16: an upper limit of ranges of 0", () -> due("rangeLimit", ranges(2, 0, 0).rangeLimit(0), 0));
    }

    private static void promises13To16Refused() {
        for (int phase : new int[] {1, -1, Integer.MIN_VALUE, Integer.MAX_VALUE}) {
            test("13 to 16: throws IndexOutOfBoundsException if there is no such phase: " + phase + " of 1", () -> {
                dueNoPhase(desk(2), phase);
                dueNoPhase(desk(2, 1, 1), phase);
            });
        }
        test("13 to 16: throws IndexOutOfBoundsException if there is no such phase: 2 of 2, one without points", () -> {
            ChartroomSpc x = desk(2, 1, 1);
            x.newPhase();
            due("points(1)", x.points(1), 0);
            dueNoPhase(x, 2);
        });
        for (int phase : new int[] {10, 11, -1, Integer.MIN_VALUE, Integer.MAX_VALUE}) {
            test("13 to 16: throws IndexOutOfBoundsException if there is no such phase: " + phase + " of 10",
                () -> dueNoPhase(tenPhases(), phase));
        }
    }

    private static void dueNoPhase(ChartroomSpc x, int phase) {
        dueThrows("points", INDEX, () -> x.points(phase));
        dueThrows("center", INDEX, () -> x.center(phase));
        dueThrows("width", INDEX, () -> x.width(phase));
        dueThrows("rangeLimit", INDEX, () -> x.rangeLimit(phase));
    }
}
