/** A test for each boundary sentence of the promises 22 to 25: weighted and cumulative charts, capability. */
public final class EdgeChartTests extends DeskChecks {
    private static final int[] SPREAD_DIVISORS = {0, 0, 1128, 1693, 2059, 2326, 2534};

    public static void main(String[] args) {
        promise22();
        promise23();
        promise23Phases();
        promise24();
        promise24Phases();
        promises23And24Refused();
        promise25();
        promise25Frozen();
        promise25Centered();
        promise25WrongBounds();
        promise25Refused();
        finish();
    }

    private static void promise22() {
        test("22: tenths: 1 to 10; returns the weight before; 2 at first", () -> {
            ChartroomSpc x = new ChartroomSpc();
            int before = 2;
            for (int tenths = 1; tenths <= 10; tenths++) {
                due("setWeight(" + tenths + ")", x.setWeight(tenths), before);
                before = tenths;
            }
            due("setWeight(10) again", x.setWeight(10), 10);
            due("setWeight(1)", x.setWeight(1), 10);
        });
        for (int tenths : new int[] {0, 11, -1, Integer.MIN_VALUE, Integer.MAX_VALUE}) {
            test("22: throws IllegalArgumentException if tenths is out of range: " + tenths, () -> {
                ChartroomSpc x = frozenDesk(10);
                dueThrows("setWeight", ARGUMENT, () -> x.setWeight(tenths));
                due("the weight as before: weighted", x.weighted(2), 1000);
                due("the weight as before", x.setWeight(7), 2);
                dueThrows("setWeight behind 7", ARGUMENT, () -> x.setWeight(tenths));
                due("the weight as before", x.setWeight(3), 7);
            });
        }
        test("22: the weight stays over measurements, phases, freezing and excluding", () -> {
            ChartroomSpc x = desk(2, 0, 2, 4, 8);
            x.setWeight(9);
            put(x, 1, 1);
            x.freeze(0);
            x.exclude(0, 1);
            x.thaw(0);
            x.newPhase();
            put(x, 2, 2);
            due("setWeight", x.setWeight(1), 9);
        });
    }

    private static void dueWeighted(ChartroomSpc x, int first, int... want) {
        for (int i = 0; i < want.length; i++) {
            due("weighted(" + (first + i) + ")", x.weighted(first + i), want[i]);
        }
    }

    private static void promise23() {
        test("23: begins with the center of the phase, the weight is 2 at first", () ->
            dueWeighted(frozenDesk(10, -10, 3), 2, 1000, -200, 140));
        test("23: with the weight 1, floor rounds down", () -> {
            // 50, and then a tenth of it less, rounded away from 0
            ChartroomSpc x = frozenDesk(1, 0, 0, 0, 0, 0, 0);
            x.setWeight(1);
            dueWeighted(x, 2, 50, 45, 40, 36, 32, 28, 25);
        });
        test("23: with the weight 1, floor rounds down, also below 0", () -> {
            ChartroomSpc x = frozenDesk(-1, 0, 0, 0, 0, 0, 0);
            x.setWeight(1);
            dueWeighted(x, 2, -50, -45, -41, -37, -34, -31, -28);
        });
        test("23: with the weight 10 it is the point itself", () -> {
            ChartroomSpc x = frozenDesk(3, -7, 0);
            x.setWeight(10);
            dueWeighted(x, 2, 1500, -3500, 0);
        });
        test("23: another weight goes for all points, not for the next ones alone", () -> {
            ChartroomSpc x = frozenDesk(10, 10);
            due("weight 2", x.weighted(3), 1800);
            x.setWeight(5);
            due("weight 5", x.weighted(3), 3750);
            x.setWeight(2);
            due("weight 2 again", x.weighted(3), 1800);
        });
        test("23: the greatest and the least numbers", () -> {
            ChartroomSpc x = desk(2, -9999, -9999, -9999, -9999);
            x.freeze(0);
            put(x, 9999, 9999, -9999, -9999);
            due("weight 2", x.weighted(2), -9999000 + 3999600);
            x.setWeight(10);
            dueWeighted(x, 0, -9999000, -9999000, 9999000, -9999000);
        });
        test("23: of a phase of one point it is its center", () -> {
            due("weighted", desk(2, 3, 4).weighted(0), 3500);
            due("below 0", desk(3, 0, 0, -1).weighted(0), -333);
        });
        test("23: of 60 points", () -> {
            ChartroomSpc x = desk(2, 0, 0, 0, 0);
            x.freeze(0);
            for (int i = 0; i < 58; i++) {
                put(x, 1, 1);
            }
            // each point adds half of what is missing, rounded down: it stays at 999
            x.setWeight(5);
            due("the first", x.weighted(0), 0);
            due("the 3rd", x.weighted(2), 500);
            due("the last", x.weighted(59), 999);
        });
    }

    private static void promise23Phases() {
        test("23: each point of the phase, without those that are excluded", () -> {
            ChartroomSpc x = frozenDesk(10, 99, 10);
            x.exclude(3, 1);
            due("weighted(4)", x.weighted(4), 1800);
            x.exclude(3, 0);
            due("weighted(4), included again", x.weighted(4), 9560);
        });
        test("23: the first point may be behind excluded ones", () -> {
            ChartroomSpc x = frozenDesk(50, 10);
            x.exclude(2, 1);
            due("weighted", x.weighted(3), 1000);
        });
        test("23: the points behind it are not in it, but in the center", () -> {
            ChartroomSpc x = desk(2, 1, 1);
            due("alone", x.weighted(0), 1000);
            put(x, 3, 3);
            // the center is 2000: 2000 + 2 * (1000 - 2000) / 10
            due("with another one", x.weighted(0), 1800);
            x.freeze(0);
            put(x, 9, 9);
            due("with a third, frozen", x.weighted(0), 1800);
        });
        test("23: begins anew with the center of the next phase", () -> {
            ChartroomSpc x = frozenDesk(10, 10);
            x.newPhase();
            put(x, 1, 1, 3, 3);
            dueWeighted(x, 4, 1800, 2040);
            due("the phase ahead", x.weighted(3), 1800);
        });
        test("23: with the frozen center", () -> {
            ChartroomSpc x = desk(2, 0, 2, 4, 8);
            x.freeze(0);
            x.exclude(0, 1);
            // 3500 + 2 * (6000 - 3500) / 10
            due("frozen", x.weighted(1), 4000);
            x.thaw(0);
            due("thawed", x.weighted(1), 6000);
        });
    }

    private static void dueCumulative(ChartroomSpc x, int subgroup, int upper, int lower) {
        due("the upper sum of " + subgroup, x.cumulative(subgroup, true), upper);
        due("the lower sum of " + subgroup, x.cumulative(subgroup, false), lower);
    }

    private static void promise24() {
        test("24: begins with 0, each point adds, but not below 0", () -> {
            // s is 47000, h is 23500
            ChartroomSpc x = frozenDesk(100, -60, 30, -200, 0);
            dueCumulative(x, 2, 26500, 0);
            dueCumulative(x, 3, 0, 6500);
            dueCumulative(x, 4, 0, 0);
            dueCumulative(x, 5, 0, 76500);
            dueCumulative(x, 6, 0, 53000);
        });
        test("24: x - center - h is just 0", () -> {
            dueCumulative(frozenDesk(47), 2, 0, 0);
            dueCumulative(frozenDesk(-47), 2, 0, 0);
            dueCumulative(frozenDesk(48), 2, 500, 0);
            dueCumulative(frozenDesk(-48), 2, 0, 500);
        });
        test("24: a sum comes to just 0, and would come below 0", () -> {
            ChartroomSpc x = frozenDesk(48, 46, 48);
            dueCumulative(x, 3, 0, 0);
            dueCumulative(x, 4, 500, 0);
            ChartroomSpc y = frozenDesk(48, 45, 48);
            dueCumulative(y, 3, 0, 0);
            dueCumulative(y, 4, 500, 0);
        });
        test("24: s as floor(width / 3)", () -> {
            // the width 365 has s 121 and h 60
            ChartroomSpc x = desk(4, 0, 0, 0, 1, 0, 0, 0, 0);
            x.freeze(0);
            x.exclude(0, 1);
            x.exclude(1, 1);
            put(x, 1, 1, 1, 1, -1, -1, -1, -1);
            due("width", x.width(0), 365);
            due("center", x.center(0), 125);
            dueCumulative(x, 2, 815, 0);
            dueCumulative(x, 3, 0, 1065);
        });
        test("24: h as floor(s / 2)", () -> {
            // the width 1023 has s 341 and h 170
            ChartroomSpc x = desk(3, 0, 0, 1, 0, 0, -1);
            x.freeze(0);
            x.exclude(0, 1);
            x.exclude(1, 1);
            put(x, 1, 1, 1, -1, -1, -1, -1, -1, -1);
            dueCumulative(x, 2, 830, 0);
            dueCumulative(x, 3, 0, 830);
            dueCumulative(x, 4, 0, 1660);
        });
        test("24: with a width of 0", () -> {
            ChartroomSpc x = desk(2, 0, 0, 0, 0);
            x.freeze(0);
            put(x, 0, 1, 0, 1, -2, -2, 0, 0);
            dueCumulative(x, 1, 0, 0);
            dueCumulative(x, 2, 500, 0);
            dueCumulative(x, 3, 1000, 0);
            dueCumulative(x, 4, 0, 2000);
            dueCumulative(x, 5, 0, 2000);
        });
        test("24: the greatest upper sum", () -> {
            ChartroomSpc x = desk(2, -9999, -9999, -9999, -9999);
            x.freeze(0);
            for (int i = 0; i < 116; i++) {
                x.put(9999);
            }
            dueCumulative(x, 59, 58 * 19998000, 0);
        });
        test("24: the greatest lower sum", () -> {
            ChartroomSpc x = desk(2, 9999, 9999, 9999, 9999);
            x.freeze(0);
            for (int i = 0; i < 116; i++) {
                x.put(-9999);
            }
            dueCumulative(x, 59, 0, 58 * 19998000);
        });
        test("24: of a phase of one point", () -> {
            dueCumulative(desk(2, 0, 9), 0, 0, 0);
            dueCumulative(desk(2, 5, 5), 0, 0, 0);
        });
        test("24: the weight is not in it", () -> {
            ChartroomSpc x = frozenDesk(100);
            x.setWeight(10);
            dueCumulative(x, 2, 26500, 0);
        });
    }

    private static void promise24Phases() {
        test("24: each point, without those that are excluded", () -> {
            ChartroomSpc x = frozenDesk(100, -100, 100, 0);
            x.exclude(3, 1);
            dueCumulative(x, 4, 53000, 0);
            dueCumulative(x, 5, 29500, 0);
            x.exclude(3, 0);
            dueCumulative(x, 3, 0, 26500);
            dueCumulative(x, 4, 26500, 0);
        });
        test("24: the points behind it are not in it, but in the limits", () -> {
            ChartroomSpc x = desk(2, 1, 1);
            dueCumulative(x, 0, 0, 0);
            put(x, 3, 3);
            dueCumulative(x, 0, 0, 1000);
            put(x, 8, 8);
            dueCumulative(x, 0, 0, 3000);
            dueCumulative(x, 2, 4000, 0);
        });
        test("24: begins anew with 0 in the next phase", () -> {
            ChartroomSpc x = frozenDesk(100, 100);
            x.newPhase();
            put(x, 1, 1, 3, 3);
            dueCumulative(x, 4, 0, 1000);
            dueCumulative(x, 5, 1000, 0);
            dueCumulative(x, 3, 53000, 0);
        });
        test("24: with the frozen center and width", () -> {
            ChartroomSpc x = desk(2, 0, 2, 4, 8);
            x.freeze(0);
            x.exclude(0, 1);
            // the width 5640 has h 940
            dueCumulative(x, 1, 1560, 0);
            x.thaw(0);
            dueCumulative(x, 1, 0, 0);
        });
    }

    private static void dueRefused(ChartroomSpc x, int subgroup, Class<?> want) {
        dueThrows("weighted", want, () -> x.weighted(subgroup));
        dueThrows("cumulative, upper", want, () -> x.cumulative(subgroup, true));
        dueThrows("cumulative, lower", want, () -> x.cumulative(subgroup, false));
    }

    private static void promises23And24Refused() {
        for (int subgroup : new int[] {0, 1, -1, Integer.MIN_VALUE, Integer.MAX_VALUE}) {
            test("23, 24: throws IndexOutOfBoundsException if there is no such subgroup: " + subgroup + " of none", () -> {
                dueRefused(desk(2), subgroup, INDEX);
                dueRefused(desk(2, 1), subgroup, INDEX);
            });
        }
        for (int subgroup : new int[] {3, 4, -1, Integer.MIN_VALUE, Integer.MAX_VALUE}) {
            test("23, 24: throws IndexOutOfBoundsException if there is no such subgroup: " + subgroup + " of 3", () -> {
                ChartroomSpc x = frozenDesk(1);
                dueRefused(x, subgroup, INDEX);
                put(x, 1);
                dueRefused(x, subgroup, INDEX);
            });
        }
        for (int subgroup : new int[] {60, 61, -1, Integer.MIN_VALUE, Integer.MAX_VALUE}) {
            test("23, 24: throws IndexOutOfBoundsException if there is no such subgroup: " + subgroup + " of 60",
                () -> dueRefused(frozenDesk(new int[58]), subgroup, INDEX));
        }
        test("23, 24: throws IllegalStateException if it is excluded", () -> {
            ChartroomSpc x = frozenDesk(1, 2);
            dueRefused(x, 0, STATE);
            dueRefused(x, 1, STATE);
            due("the point behind", x.weighted(2), 100);
            x.exclude(3, 9);
            dueRefused(x, 3, STATE);
            x.exclude(3, 1);
            dueRefused(x, 3, STATE);
            x.exclude(3, 0);
            due("included again", x.weighted(3), 280);
            dueCumulative(x, 3, 0, 0);
        });
        test("23, 24: throws IllegalStateException if it is excluded, in a phase that has no limits", () -> {
            ChartroomSpc x = desk(2, 1, 1);
            x.exclude(0, 1);
            dueRefused(x, 0, STATE);
        });
        test("23, 24: throws IllegalStateException if it is excluded, the last of 60", () -> {
            ChartroomSpc x = frozenDesk(new int[58]);
            x.exclude(59, 1);
            dueRefused(x, 59, STATE);
            due("the one ahead", x.weighted(58), 0);
        });
    }

    // ---- capability

    private static void dueCapability(ChartroomSpc x, int lowest, int highest, boolean isCentered, long want) {
        due("capability(0, " + lowest + ", " + highest + ", " + isCentered + ")",
                x.capability(0, lowest, highest, isCentered), want);
    }

    private static void promise25() {
        for (int size = 2; size <= 6; size++) {
            int due = size;
            test("25: e for the sizes 2 to 6: " + size, () -> {
                int[] values = new int[due];
                values[0] = 1;
                long d = floorOf(1000000, SPREAD_DIVISORS[due]);
                dueCapability(desk(due, values), 0, 10, false, floorOf(10000000, 6 * d));
                values[0] = 1000;
                d = floorOf(1000000000, SPREAD_DIVISORS[due]);
                dueCapability(desk(due, values), -9999, 9999, false, floorOf(19998000000L, 6 * d));
            });
            test("25: the greatest spread, of " + size, () -> {
                int[] values = new int[due];
                values[0] = 9999;
                values[1] = -9999;
                long d = floorOf(19998000000L, SPREAD_DIVISORS[due]);
                dueCapability(desk(due, values), -9999, 9999, false, floorOf(19998000000L, 6 * d));
                dueCapability(desk(due, values), 0, 1, false, floorOf(1000000, 6 * d));
            });
        }
        test("25: d is rounded down", () -> {
            // 1000000 / 1128 is 886.52
            dueCapability(desk(2, 0, 1), 0, 9999, false, floorOf(9999000000L, 6 * 886));
            dueCapability(desk(2, 0, 1), -9999, 9999, true, floorOf(9998500000L, 3 * 886));
        });
        test("25: the index is rounded down", () -> {
            // 17000000 / 5316 is 3197.9
            dueCapability(desk(2, 0, 1), 0, 17, false, 3197);
        });
        test("25: the least spread but 0", () -> {
            int[] values = new int[120];
            values[119] = 1;
            // the mean range is 17, and d is floor(17000 / 1128), 15
            dueCapability(desk(2, values), -9999, 9999, false, 19998000000L / 90);
            dueCapability(desk(2, values), -9999, 9999, true, floorOf(9998992000L, 45));
        });
        test("25: lowest: -9999 to 9999, highest: lowest to 9999: the edges", () -> {
            ChartroomSpc x = desk(2, 0, 6);
            // d is floor(6000000 / 1128), 5319, and the center 3000
            dueCapability(x, -9999, -9999, false, 0);
            dueCapability(x, 9999, 9999, false, 0);
            dueCapability(x, 0, 0, false, 0);
            dueCapability(x, -9999, 9999, false, floorOf(19998000000L, 6 * 5319));
            dueCapability(x, -9999, -9998, false, floorOf(1000000, 6 * 5319));
            dueCapability(x, 9998, 9999, false, floorOf(1000000, 6 * 5319));
            dueCapability(x, -1, 0, false, floorOf(1000000, 6 * 5319));
        });
    }

    private static void promise25Frozen() {
        test("25: of a phase that is frozen, its mean range and center of then", () -> {
            ChartroomSpc x = desk(2, 0, 6, 0, 6);
            x.freeze(0);
            put(x, 100, 200);
            dueCapability(x, 0, 10, true, 188);
            dueCapability(x, 0, 10, false, floorOf(10000000, 6 * 5319));
            x.exclude(0, 1);
            x.exclude(1, 1);
            x.exclude(2, 1);
            dueCapability(x, 0, 10, true, 188);
            x.thaw(0);
            dueThrows("thawed, no point", STATE, () -> x.capability(0, 0, 10, true));
            x.exclude(2, 0);
            // the mean range is 100000, d is 88652, and the center 150000
            dueCapability(x, 0, 200, true, floorOf(50000000, 3 * 88652));
        });
        test("25: of a phase that is frozen with a spread of 0", () -> {
            ChartroomSpc x = desk(2, 5, 5, 5, 5);
            x.freeze(0);
            put(x, 0, 100);
            dueThrows("capability", STATE, () -> x.capability(0, 0, 10, true));
            x.thaw(0);
            due("thawed", x.capability(0, 0, 0, false), 0);
        });
        test("25: of that phase", () -> {
            ChartroomSpc x = desk(2, 0, 6);
            x.newPhase();
            put(x, 0, 100);
            due("of 0", x.capability(0, 0, 10, true), 188);
            due("of 1", x.capability(1, 0, 100, true), floorOf(50000000, 3 * 88652));
        });
    }

    private static void promise25Centered() {
        ChartroomSpc x = desk(2, 0, 6);
        // the center is 3000, and 3 * d is 15957
        test("25: m is the lesser one: center - 1000 * lowest", () -> dueCapability(x, 0, 10, true, 188));
        test("25: m is the lesser one: 1000 * highest - center", () -> dueCapability(x, -10, 4, true, 62));
        test("25: m is both", () -> dueCapability(x, 0, 6, true, 188));
        test("25: m is 0", () -> {
            dueCapability(x, 3, 10, true, 0);
            dueCapability(x, -10, 3, true, 0);
            dueCapability(x, 3, 3, true, 0);
        });
        test("25: it may be below 0 if it is centered, rounded down", () -> {
            dueCapability(x, 4, 10, true, -63);
            dueCapability(x, -10, 2, true, -63);
            dueCapability(x, 9999, 9999, true, floorOf(-9996000000L, 15957));
            dueCapability(x, -9999, -9999, true, floorOf(-10002000000L, 15957));
        });
        test("25: the farthest below 0", () -> {
            int[] values = new int[120];
            java.util.Arrays.fill(values, 9999);
            values[0] = 9998;
            // the center is 9998992, d is 15
            dueCapability(desk(2, values), -9999, -9999, true, floorOf(-19997992000L, 45));
            for (int i = 0; i < 120; i++) {
                values[i] = -values[i];
            }
            dueCapability(desk(2, values), 9999, 9999, true, floorOf(-19997992000L, 45));
        });
        test("25: the greatest of all, centered", () ->
            dueCapability(x, -9999, 9999, true, floorOf(9996000000L, 15957)));
    }

    private static final int[][] WRONG_BOUNDS = {
        {-10000, 0}, {-10000, -10000}, {10000, 10000}, {0, 10000}, {9999, 10000}, {-9999, -10000}, {5, 4}, {0, -1},
        {9999, -9999}, {9999, 9998}, {-10000, 10000}, {10000, -10000}, {Integer.MIN_VALUE, 0}, {0, Integer.MAX_VALUE},
        {0, Integer.MIN_VALUE}, {Integer.MAX_VALUE, 0}, {Integer.MIN_VALUE, Integer.MAX_VALUE},
        {Integer.MAX_VALUE, Integer.MIN_VALUE},
    };

    private static void promise25WrongBounds() {
        for (int[] bounds : WRONG_BOUNDS) {
            String what = bounds[0] + " and " + bounds[1];
            test("25: throws IllegalArgumentException if lowest or highest is out of range: " + what, () -> {
                ChartroomSpc x = desk(2, 0, 6);
                dueThrows("not centered", ARGUMENT, () -> x.capability(0, bounds[0], bounds[1], false));
                dueThrows("centered", ARGUMENT, () -> x.capability(0, bounds[0], bounds[1], true));
            });
            test("25: out of range and no such phase: IndexOutOfBoundsException: " + what, () -> {
                ChartroomSpc x = desk(2, 0, 6);
                dueThrows("phase 1", INDEX, () -> x.capability(1, bounds[0], bounds[1], false));
                dueThrows("phase -1", INDEX, () -> x.capability(-1, bounds[0], bounds[1], true));
            });
            test("25: out of range and no limits: IllegalArgumentException: " + what, () -> {
                ChartroomSpc x = desk(2);
                dueThrows("no limits", ARGUMENT, () -> x.capability(0, bounds[0], bounds[1], false));
                dueThrows("no limits, centered", ARGUMENT, () -> x.capability(0, bounds[0], bounds[1], true));
            });
            test("25: out of range and d is 0: IllegalArgumentException: " + what, () -> {
                ChartroomSpc x = desk(2, 5, 5);
                dueThrows("d is 0", ARGUMENT, () -> x.capability(0, bounds[0], bounds[1], false));
                dueThrows("d is 0, centered", ARGUMENT, () -> x.capability(0, bounds[0], bounds[1], true));
            });
        }
    }

    private static void promise25Refused() {
        for (int phase : new int[] {1, -1, Integer.MIN_VALUE, Integer.MAX_VALUE}) {
            test("25: throws IndexOutOfBoundsException if there is no such phase: " + phase, () -> {
                dueThrows("of a phase", INDEX, () -> desk(2, 0, 6).capability(phase, 0, 1, false));
                dueThrows("of one without limits", INDEX, () -> desk(2).capability(phase, 0, 1, true));
            });
        }
        test("25: throws IndexOutOfBoundsException if there is no such phase: 10 of 10", () -> {
            ChartroomSpc x = desk(2, 0, 6);
            for (int i = 1; i < 10; i++) {
                x.newPhase();
                put(x, 0, 6);
            }
            due("the last", x.capability(9, 0, 10, true), 188);
            dueThrows("behind the last", INDEX, () -> x.capability(10, 0, 10, true));
        });
        test("25: throws IllegalStateException if it has no limits", () -> {
            ChartroomSpc x = desk(2);
            dueThrows("no subgroup", STATE, () -> x.capability(0, 0, 1, false));
            put(x, 0);
            dueThrows("one begun", STATE, () -> x.capability(0, 0, 1, false));
            put(x, 6);
            due("one", x.capability(0, 0, 10, true), 188);
            x.exclude(0, 1);
            dueThrows("one excluded", STATE, () -> x.capability(0, 0, 1, true));
            x.newPhase();
            dueThrows("a new phase", STATE, () -> x.capability(1, 0, 1, true));
        });
        test("25: throws IllegalStateException if d is 0", () -> {
            ChartroomSpc x = desk(2, 5, 5);
            dueThrows("one point", STATE, () -> x.capability(0, 0, 10, false));
            dueThrows("one point, centered", STATE, () -> x.capability(0, 0, 10, true));
            dueThrows("nothing between", STATE, () -> x.capability(0, 5, 5, false));
            put(x, 9, 9);
            dueThrows("two points", STATE, () -> x.capability(0, 0, 10, true));
            put(x, 0, 1);
            due("a third that has a range", x.capability(0, 5, 5, false), 0);
            x.exclude(2, 1);
            dueThrows("the third is excluded", STATE, () -> x.capability(0, 0, 10, true));
        });
    }
}
