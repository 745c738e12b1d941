/** Each promise of the document by hand: ordinary inputs, the edges that it names, and wrong inputs. */
public final class PromiseTests extends DeskChecks {
    public static void main(String[] args) {
        test("promise1NewObject", PromiseTests::promise1NewObject);
        test("promise2Begin", PromiseTests::promise2Begin);
        test("promise3Put", PromiseTests::promise3Put);
        test("promise4NewPhase", PromiseTests::promise4NewPhase);
        test("promise5Freeze", PromiseTests::promise5Freeze);
        test("promise6Thaw", PromiseTests::promise6Thaw);
        test("promise7Exclude", PromiseTests::promise7Exclude);
        test("promises8And9Counts", PromiseTests::promises8And9Counts);
        test("promises10And11MeanAndRange", PromiseTests::promises10And11MeanAndRange);
        test("promise12PhaseOf", PromiseTests::promise12PhaseOf);
        test("promise13Points", PromiseTests::promise13Points);
        test("promise14Center", PromiseTests::promise14Center);
        test("promise15Width", PromiseTests::promise15Width);
        test("promise16RangeLimit", PromiseTests::promise16RangeLimit);
        test("promises17To19Rule1", PromiseTests::promises17To19Rule1);
        test("promises17To19Rule2", PromiseTests::promises17To19Rule2);
        test("promises17To19Rule3", PromiseTests::promises17To19Rule3);
        test("promises17To19Rule4", PromiseTests::promises17To19Rule4);
        test("promises17To19Rule5", PromiseTests::promises17To19Rule5);
        test("promises17To19Rule6", PromiseTests::promises17To19Rule6);
        test("promises17To19Rule7", PromiseTests::promises17To19Rule7);
        test("promises17To19Rule8", PromiseTests::promises17To19Rule8);
        test("promises17To19PointsAndPhases", PromiseTests::promises17To19PointsAndPhases);
        test("promises17To19WrongInputs", PromiseTests::promises17To19WrongInputs);
        test("promise20IsWide", PromiseTests::promise20IsWide);
        test("promise21Alarms", PromiseTests::promise21Alarms);
        test("promise22SetWeight", PromiseTests::promise22SetWeight);
        test("promise23Weighted", PromiseTests::promise23Weighted);
        test("promise24Cumulative", PromiseTests::promise24Cumulative);
        test("promise25Capability", PromiseTests::promise25Capability);
        finish();
    }

    private static void promise1NewObject() {
        due("NONE", ChartroomSpc.NONE, -1);
        ChartroomSpc x = new ChartroomSpc();
        due("new: subgroups", x.subgroups(), 0);
        due("new: phases", x.phases(), 1);
        due("new: points(0)", x.points(0), 0);
        due("new: alarms", x.alarms(), 0);
        for (int i = 1; i <= 4; i++) {
            due("new: put " + i, x.put(i), false);
        }
        due("new: put 5", x.put(5), true);
        due("new: phaseOf(0)", x.phaseOf(0), 0);
        due("new: setWeight", x.setWeight(7), 2);
    }

    private static void promise2Begin() {
        for (int size = 2; size <= 6; size++) {
            ChartroomSpc x = new ChartroomSpc();
            x.begin(size);
            for (int i = 1; i < size; i++) {
                due("begin " + size + ": put " + i, x.put(i), false);
            }
            due("begin " + size + ": last put", x.put(0), true);
        }
        ChartroomSpc x = desk(3, 1, 2, 3, 4, 5, 6);
        x.freeze(0);
        x.exclude(0, 4);
        x.newPhase();
        x.setWeight(9);
        put(x, 77);
        for (int size : new int[] {1, 7, 0, -1, Integer.MIN_VALUE, Integer.MAX_VALUE}) {
            dueThrows("begin(" + size + ")", ARGUMENT, () -> x.begin(size));
        }
        due("begin refused: subgroups", x.subgroups(), 2);
        due("begin refused: phases", x.phases(), 2);
        due("begin refused: put", x.put(1), false);
        due("begin refused: put", x.put(1), true);
        put(x, 5);
        x.begin(3);
        due("begun anew: subgroups", x.subgroups(), 0);
        due("begun anew: phases", x.phases(), 1);
        due("begun anew: points", x.points(0), 0);
        dueThrows("begun anew: center(0)", STATE, () -> x.center(0));
        dueThrows("begun anew: thaw(0)", STATE, () -> x.thaw(0));
        dueThrows("begun anew: mean(0)", INDEX, () -> x.mean(0));
        dueThrows("begun anew: points(1)", INDEX, () -> x.points(1));
        due("begun anew: put", x.put(10), false);
        due("begun anew: put", x.put(10), false);
        due("begun anew: put", x.put(11), true);
        due("begun anew: mean", x.mean(0), 10333);
        due("begun anew: range", x.range(0), 1);
        due("begun anew: center", x.center(0), 10333);
        due("begun anew: width", x.width(0), 1023);
        due("begun anew: reason", x.exclude(0, 0), 0);
        due("begun anew: weight", x.setWeight(3), 2);
    }

    private static void promise3Put() {
        ChartroomSpc x = desk(2);
        due("put least", x.put(-9999), false);
        due("put greatest", x.put(9999), true);
        for (int value : new int[] {-10000, 10000, Integer.MIN_VALUE, Integer.MAX_VALUE}) {
            dueThrows("put(" + value + ")", ARGUMENT, () -> x.put(value));
        }
        due("put refused: put", x.put(5), false);
        dueThrows("put(10000) amid a subgroup", ARGUMENT, () -> x.put(10000));
        due("put refused: put", x.put(8), true);
        due("put refused: mean", x.mean(1), 6500);
        due("put refused: range", x.range(1), 3);
        for (int i = 2; i < 60; i++) {
            due("put first of " + i, x.put(i), false);
            due("put second of " + i, x.put(i), true);
        }
        due("60 subgroups", x.subgroups(), 60);
        dueThrows("put at 60", STATE, () -> x.put(1));
        dueThrows("put(10000) at 60", ARGUMENT, () -> x.put(10000));
        due("60 subgroups still", x.subgroups(), 60);
        due("mean of the last", x.mean(59), 59000);
        x.begin(2);
        due("put after begin", x.put(1), false);
    }

    private static void promise4NewPhase() {
        ChartroomSpc x = desk(2);
        dueThrows("newPhase at first", STATE, x::newPhase);
        put(x, 1);
        dueThrows("newPhase amid the first subgroup", STATE, x::newPhase);
        put(x, 2);
        due("newPhase", x.newPhase(), 1);
        dueThrows("newPhase without subgroups", STATE, x::newPhase);
        due("phases", x.phases(), 2);
        put(x, 3, 4, 5);
        dueThrows("newPhase amid a subgroup", STATE, x::newPhase);
        put(x, 6);
        due("phaseOf(0)", x.phaseOf(0), 0);
        due("phaseOf(1)", x.phaseOf(1), 1);
        due("phaseOf(2)", x.phaseOf(2), 1);
        x.exclude(1, 1);
        x.exclude(2, 1);
        due("newPhase behind excluded subgroups", x.newPhase(), 2);
        for (int i = 3; i < 10; i++) {
            put(x, i, i);
            due("newPhase " + i, x.newPhase(), i);
        }
        put(x, 1, 1);
        dueThrows("newPhase at 10", STATE, x::newPhase);
        due("phases", x.phases(), 10);
        due("phaseOf the last", x.phaseOf(x.subgroups() - 1), 9);
        ChartroomSpc full = desk(2);
        for (int i = 0; i < 60; i++) {
            put(full, i, i);
        }
        due("newPhase behind 60 subgroups", full.newPhase(), 1);
        due("points of it", full.points(1), 0);
        dueThrows("newPhase once more", STATE, full::newPhase);
    }

    private static void promise5Freeze() {
        ChartroomSpc x = desk(2, 0, 2);
        dueThrows("freeze(1)", INDEX, () -> x.freeze(1));
        dueThrows("freeze(-1)", INDEX, () -> x.freeze(-1));
        dueThrows("freeze max", INDEX, () -> x.freeze(Integer.MAX_VALUE));
        dueThrows("freeze min", INDEX, () -> x.freeze(Integer.MIN_VALUE));
        dueThrows("freeze with 1 point", STATE, () -> x.freeze(0));
        put(x, 4, 8);
        x.exclude(1, 1);
        dueThrows("freeze with 1 point and an excluded one", STATE, () -> x.freeze(0));
        x.exclude(1, 0);
        x.freeze(0);
        dueThrows("freeze again", STATE, () -> x.freeze(0));
        put(x, 100, 200);
        x.exclude(0, 3);
        due("frozen: center", x.center(0), 3500);
        due("frozen: width", x.width(0), 5640);
        due("frozen: rangeLimit", x.rangeLimit(0), 9801);
        due("frozen: points", x.points(0), 2);
        due("frozen: capability", x.capability(0, 0, 10, false), floorOf(1000L * 10000, 6 * 2659));
        x.exclude(1, 3);
        x.exclude(2, 3);
        due("frozen without points: points", x.points(0), 0);
        due("frozen without points: center", x.center(0), 3500);
        due("frozen without points: width", x.width(0), 5640);
        due("frozen without points: rangeLimit", x.rangeLimit(0), 9801);
        due("frozen without points: capability", x.capability(0, 0, 10, true), floorOf(1000L * 3500, 3 * 2659));
        dueThrows("freeze a frozen one without points", STATE, () -> x.freeze(0));
        x.newPhase();
        put(x, 1, 3);
        due("the next phase is not frozen", x.center(1), 2000);
        dueThrows("thaw(1)", STATE, () -> x.thaw(1));
    }

    private static void promise6Thaw() {
        ChartroomSpc x = desk(2, 0, 2, 4, 8);
        dueThrows("thaw(1)", INDEX, () -> x.thaw(1));
        dueThrows("thaw(-1)", INDEX, () -> x.thaw(-1));
        dueThrows("thaw what is not frozen", STATE, () -> x.thaw(0));
        x.freeze(0);
        put(x, 10, 16);
        x.exclude(0, 1);
        due("frozen: center", x.center(0), 3500);
        x.thaw(0);
        due("thawed: center", x.center(0), 9500);
        due("thawed: width", x.width(0), 9400);
        due("thawed: rangeLimit", x.rangeLimit(0), 16335);
        dueThrows("thaw again", STATE, () -> x.thaw(0));
        x.exclude(0, 0);
        due("thawed: center follows", x.center(0), 6667);
        x.freeze(0);
        for (int i = 0; i < 3; i++) {
            x.exclude(i, 1);
        }
        x.thaw(0);
        dueThrows("thawed without points: center", STATE, () -> x.center(0));
        dueThrows("thawed without points: freeze", STATE, () -> x.freeze(0));
        x.exclude(1, 0);
        due("a point comes back: center", x.center(0), 6000);
    }

    private static void promise7Exclude() {
        ChartroomSpc x = desk(2, 0, 2, 4, 8, 1);
        dueThrows("exclude(2)", INDEX, () -> x.exclude(2, 1));
        dueThrows("exclude(-1)", INDEX, () -> x.exclude(-1, 1));
        dueThrows("exclude(2, 10)", INDEX, () -> x.exclude(2, 10));
        dueThrows("exclude max", INDEX, () -> x.exclude(Integer.MAX_VALUE, 1));
        dueThrows("exclude(0, 10)", ARGUMENT, () -> x.exclude(0, 10));
        dueThrows("exclude(0, -1)", ARGUMENT, () -> x.exclude(0, -1));
        due("include what is included", x.exclude(0, 0), 0);
        due("points", x.points(0), 2);
        due("exclude", x.exclude(0, 9), 0);
        due("points", x.points(0), 1);
        due("center", x.center(0), 6000);
        due("exclude for another reason", x.exclude(0, 1), 9);
        due("points", x.points(0), 1);
        dueThrows("exclude(0, 10) again", ARGUMENT, () -> x.exclude(0, 10));
        due("include", x.exclude(0, 0), 1);
        due("center", x.center(0), 3500);
        due("points", x.points(0), 2);
        due("include once more", x.exclude(0, 0), 0);
        due("points", x.points(0), 2);
        due("mean of an excluded one", mean(x, 1), 6000);
    }

    private static int mean(ChartroomSpc x, int subgroup) {
        x.exclude(subgroup, 5);
        return x.mean(subgroup);
    }

    private static void promises8And9Counts() {
        ChartroomSpc x = desk(3, 1, 2);
        due("subgroups, none done", x.subgroups(), 0);
        put(x, 3);
        due("subgroups", x.subgroups(), 1);
        x.exclude(0, 1);
        due("subgroups with an excluded one", x.subgroups(), 1);
        due("phases", x.phases(), 1);
        x.newPhase();
        due("phases", x.phases(), 2);
        due("subgroups", x.subgroups(), 1);
    }

    private static void promises10And11MeanAndRange() {
        ChartroomSpc x = desk(6, 0, 0, 0, 0, 0, 1, 0, 0, 0, 0, 0, -1);
        due("mean of a sixth", x.mean(0), 167);
        due("mean of a sixth below 0", x.mean(1), -167);
        due("range", x.range(0), 1);
        due("range below 0", x.range(1), 1);
        ChartroomSpc thirds = desk(3, 1, 0, 0, -1, 0, 0, 9999, 9999, 9999, -9999, -9999, -9999, -9999, 9999, 3);
        due("mean of a third", thirds.mean(0), 333);
        due("mean of a third below 0", thirds.mean(1), -333);
        due("greatest mean", thirds.mean(2), 9999000);
        due("least mean", thirds.mean(3), -9999000);
        due("range 0", thirds.range(2), 0);
        due("greatest range", thirds.range(4), 19998);
        due("mean", thirds.mean(4), 1000);
        due("least first", desk(3, -5, 7, 1).range(0), 12);
        due("least last", desk(3, 7, 1, -5).range(0), 12);
        due("all below 0", desk(2, -7, -3).range(0), 4);
        due("all above 0", desk(2, 3, 7).range(0), 4);
        for (int subgroup : new int[] {5, -1, Integer.MAX_VALUE, Integer.MIN_VALUE}) {
            dueThrows("mean(" + subgroup + ")", INDEX, () -> thirds.mean(subgroup));
            dueThrows("range(" + subgroup + ")", INDEX, () -> thirds.range(subgroup));
        }
        put(thirds, 4);
        dueThrows("mean of one begun", INDEX, () -> thirds.mean(5));
        dueThrows("range of one begun", INDEX, () -> thirds.range(5));
    }

    private static void promise12PhaseOf() {
        ChartroomSpc x = desk(2, 1, 1, 2, 2);
        x.newPhase();
        put(x, 3, 3);
        due("phaseOf(0)", x.phaseOf(0), 0);
        due("phaseOf(1)", x.phaseOf(1), 0);
        due("phaseOf(2)", x.phaseOf(2), 1);
        x.exclude(2, 1);
        due("phaseOf an excluded one", x.phaseOf(2), 1);
        dueThrows("phaseOf(3)", INDEX, () -> x.phaseOf(3));
        dueThrows("phaseOf(-1)", INDEX, () -> x.phaseOf(-1));
    }

    private static void promise13Points() {
        ChartroomSpc x = desk(2, 1, 1, 2, 2, 3);
        due("points(0)", x.points(0), 2);
        put(x, 3);
        x.exclude(1, 2);
        due("points with one excluded", x.points(0), 2);
        x.newPhase();
        due("points of a new phase", x.points(1), 0);
        put(x, 4, 4);
        due("points(1)", x.points(1), 1);
        due("points(0)", x.points(0), 2);
        dueThrows("points(2)", INDEX, () -> x.points(2));
        dueThrows("points(-1)", INDEX, () -> x.points(-1));
    }

    private static void dueNoLimits(ChartroomSpc x, int phase) {
        dueThrows("no limits: center", STATE, () -> x.center(phase));
        dueThrows("no limits: width", STATE, () -> x.width(phase));
        dueThrows("no limits: rangeLimit", STATE, () -> x.rangeLimit(phase));
    }

    private static void promise14Center() {
        // 1000 * 1 / 16 is 62.5: a half upwards, also below 0
        int[] values = new int[16];
        values[3] = 1;
        due("center of 62.5", desk(4, values).center(0), 63);
        values[3] = -1;
        due("center of -62.5", desk(4, values).center(0), -62);
        due("center is found from the sum, not the means", desk(3, 1, 0, 0, 1, 0, 0, 0, 0, 0).center(0), 222);
        ChartroomSpc x = desk(2, 1, 2);
        due("center", x.center(0), 1500);
        x.newPhase();
        dueNoLimits(x, 1);
        put(x, 10, 20);
        due("center(1)", x.center(1), 15000);
        due("center(0)", x.center(0), 1500);
        x.exclude(1, 1);
        dueNoLimits(x, 1);
        dueThrows("center(2)", INDEX, () -> x.center(2));
        dueThrows("center(-1)", INDEX, () -> x.center(-1));
        dueNoLimits(new ChartroomSpc(), 0);
        ChartroomSpc greatest = desk(6);
        for (int i = 0; i < 360; i++) {
            greatest.put(9999);
        }
        due("greatest center", greatest.center(0), 9999000);
        ChartroomSpc least = desk(6);
        for (int i = 0; i < 360; i++) {
            least.put(-9999);
        }
        due("least center", least.center(0), -9999000);
    }

    private static void promise15Width() {
        int[] factors = {1880, 1023, 729, 577, 483};
        for (int size = 2; size <= 6; size++) {
            int[] values = new int[size];
            values[0] = 1;
            due("width at size " + size, desk(size, values).width(0), factors[size - 2]);
            values[0] = 100;
            due("width of 100 at size " + size, desk(size, values).width(0), 100 * factors[size - 2]);
        }
        // ranges 1, 0, 0: the mean range is 333, the width 626.04
        due("width of thirds", desk(2, 0, 1, 0, 0, 0, 0).width(0), 626);
        // ranges 1, 1, 0: the mean range is 667 (rounded), the width 1253.96
        due("width of two thirds", desk(2, 0, 1, 0, 1, 0, 0).width(0), 1254);
        // 1000 / 16 is 62.5, rounded 63: the width is 118.44
        due("width of a sixteenth", desk(2, new int[31], 1).width(0), 118);
        // f * mean range / 1000 with a half: 577 * 500 / 1000 is 288.5
        due("width with a half", desk(5, 0, 0, 0, 0, 1, 0, 0, 0, 0, 0).width(0), 289);
        due("width 0", desk(2, 5, 5).width(0), 0);
        due("greatest width", desk(2, -9999, 9999).width(0), 37596240);
        ChartroomSpc x = desk(2, 5, 5);
        dueThrows("width(1)", INDEX, () -> x.width(1));
        dueThrows("width(-1)", INDEX, () -> x.width(-1));
    }

    private static ChartroomSpc desk(int size, int[] values, int last) {
        ChartroomSpc x = desk(size, values);
        x.put(last);
        return x;
    }

    private static void promise16RangeLimit() {
        int[] factors = {3267, 2574, 2282, 2114, 2004};
        for (int size = 2; size <= 6; size++) {
            int[] values = new int[size];
            values[0] = 1;
            due("rangeLimit at size " + size, desk(size, values).rangeLimit(0), factors[size - 2]);
        }
        // 3267 * 500 / 1000 is 1633.5
        due("rangeLimit with a half", desk(2, 0, 1, 0, 0).rangeLimit(0), 1634);
        due("rangeLimit 0", desk(2, 5, 5).rangeLimit(0), 0);
        due("greatest rangeLimit", desk(2, -9999, 9999).rangeLimit(0), 65333466);
        ChartroomSpc x = desk(2, 5, 5);
        dueThrows("rangeLimit(1)", INDEX, () -> x.rangeLimit(1));
        dueThrows("rangeLimit(-1)", INDEX, () -> x.rangeLimit(-1));
    }

    private static void promises17To19Rule1() {
        dueSignals("just at 3", 0, 282);
        dueSignals("just beyond 3", rules(1), 283);
        dueSignals("beyond 3 ahead only", 0, 283, 0);
        ChartroomSpc x = desk(2, 5, 5, 5, 5);
        dueSignals("width 0, at the center", x, 1, 0);
        x.freeze(0);
        put(x, 5, 6);
        dueSignals("width 0, off the center", x, 2, rules(1));
    }

    private static void promises17To19Rule2() {
        dueSignals("8 above", 0, 1, 1, 1, 1, 1, 1, 1, 1);
        dueSignals("9 above", rules(2), 1, 1, 1, 1, 1, 1, 1, 1, 1);
        dueSignals("10 above", rules(2), 1, 1, 1, 1, 1, 1, 1, 1, 1, 1);
        dueSignals("one at the center", 0, 1, 1, 1, 1, 0, 1, 1, 1, 1);
        dueSignals("the first at the center", 0, 0, 1, 1, 1, 1, 1, 1, 1, 1);
        dueSignals("the last at the center", 0, 1, 1, 1, 1, 1, 1, 1, 1, 0);
        dueSignals("one on the other side", 0, 1, 1, 1, 1, 1, 1, 1, 1, -1);
        dueSignals("9 behind one on the other side", rules(2), -1, 1, 1, 1, 1, 1, 1, 1, 1, 1);
        dueSignals("9 at the center", 0, 0, 0, 0, 0, 0, 0, 0, 0, 0);
    }

    private static void promises17To19Rule3() {
        dueSignals("5 rising", 0, -2, -1, 0, 1, 2);
        dueSignals("6 rising", rules(3), -2, -1, 0, 1, 2, 3);
        dueSignals("7 rising", rules(3), -2, -1, 0, 1, 2, 3, 4);
        dueSignals("6 rising behind a fall", rules(3), 5, -2, -1, 0, 1, 2, 3);
        dueSignals("5 rising behind an equal one", 0, -2, -2, -1, 0, 1, 2);
        for (int step = 1; step < 6; step++) {
            int[] same = {-2, -1, 0, 1, 2, 3};
            int[] fall = same.clone();
            for (int i = step; i < 6; i++) {
                same[i] -= 1;
                fall[i] -= 2;
            }
            dueSignals("6 rising, but the same at step " + step, 0, same);
            dueSignals("6 rising, but a fall at step " + step, 0, fall);
        }
        dueSignals("the last two the same", 0, -2, -1, 0, 1, 2, 2);
        dueSignals("a fall at last", 0, -2, -1, 0, 1, 2, 1);
    }

    private static void promises17To19Rule4() {
        dueSignals("13 in turn", 0, 1, 0, 1, 0, 1, 0, 1, 0, 1, 0, 1, 0, 1);
        dueSignals("14 in turn", rules(4), 1, 0, 1, 0, 1, 0, 1, 0, 1, 0, 1, 0, 1, 0);
        dueSignals("15 in turn", rules(4, 7), 1, 0, 1, 0, 1, 0, 1, 0, 1, 0, 1, 0, 1, 0, 1);
        dueSignals("14 in turn with 2 the same at first", 0, 0, 0, 1, 0, 1, 0, 1, 0, 1, 0, 1, 0, 1, 0);
        dueSignals("14 in turn with 2 the same at last", 0, 1, 0, 1, 0, 1, 0, 1, 0, 1, 0, 1, 0, 1, 1);
        for (int step = 1; step < 14; step++) {
            int[] same = new int[14];
            for (int i = 0; i < 14; i++) {
                same[i] = (i < step ? i : i - 1) % 2;
            }
            dueSignals("14 in turn, but the same at step " + step, 0, same);
        }
        dueSignals("14 with a rise of two", 0, 1, 0, 1, 0, 1, -1, 0, 1, 0, 1, 0, 1, 0, 1);
        dueSignals("14 in turn behind a rise of two", rules(4, 7), 0, 1, 2, 1, 2, 1, 2, 1, 2, 1, 2, 1, 2, 0, 2);
        dueSignals("14 in turn behind two the same", rules(4, 7), 1, 1, 0, 1, 0, 1, 0, 1, 0, 1, 0, 1, 0, 1, 0);
    }

    private static void promises17To19Rule5() {
        dueSignals("two beyond 2, but two points", 0, 189, 189);
        dueSignals("two beyond 2 of three", rules(5), 0, 189, 189);
        dueSignals("the first and the last", rules(5), 189, 0, 189);
        dueSignals("all three", rules(5), 189, 189, 189);
        dueSignals("two, but not the last", 0, 189, 189, 0);
        dueSignals("just at 2", 0, 0, 188, 189);
        dueSignals("the last just at 2", 0, 189, 189, 188);
        dueSignals("on both sides", 0, 0, -189, 189);
        dueSignals("on both sides, two of three", rules(5), 189, -189, 189);
        dueSignals("too far ahead", 0, 189, 0, 0, 189);
    }

    private static void promises17To19Rule6() {
        dueSignals("four beyond 1, but four points", 0, 95, 95, 95, 95);
        dueSignals("four of five", rules(6), 0, 95, 95, 95, 95);
        dueSignals("four of five, a gap", rules(6), 95, 95, 0, 95, 95);
        dueSignals("all five", rules(6), 95, 95, 95, 95, 95);
        dueSignals("four, but not the last", 0, 95, 95, 95, 95, 0);
        dueSignals("one just at 1", rules(6), 94, 95, 95, 95, 95);
        dueSignals("two just at 1", 0, 94, 94, 95, 95, 95);
        dueSignals("three on a side", 0, 95, -95, -95, 95, 95);
        dueSignals("four on a side", rules(6), 95, 95, -95, 95, 95);
        dueSignals("too far ahead", 0, 95, 0, 0, 95, 95, 95);
    }

    private static void promises17To19Rule7() {
        int[] near = {94, 94, -94, -94, 94, 94, -94, -94, 94, 94, -94, -94, 94, 94, -94};
        dueSignals("15 near", rules(7), near);
        int[] fewer = java.util.Arrays.copyOf(near, 14);
        dueSignals("14 near", 0, fewer);
        for (int i = 0; i < 15; i++) {
            int[] one = near.clone();
            one[i] = one[i] > 0 ? 95 : -95;
            dueSignals("one beyond 1 at " + i, 0, one);
        }
        int[] behindFar = new int[16];
        behindFar[0] = 95;
        System.arraycopy(near, 0, behindFar, 1, 15);
        dueSignals("15 near behind a far one", rules(7), behindFar);
        dueSignals("14 near behind a far one", 0, java.util.Arrays.copyOf(behindFar, 15));
        dueSignals("16 near", rules(7), 0, 94, 94, -94, -94, 94, 94, -94, -94, 94, 94, -94, -94, 94, 94, -94);
    }

    private static void promises17To19Rule8() {
        int[] far = {95, 95, -95, -95, 95, 95, -95, -95};
        dueSignals("8 far", rules(8), far);
        dueSignals("7 far", 0, java.util.Arrays.copyOf(far, 7));
        for (int i = 0; i < 8; i++) {
            int[] one = far.clone();
            one[i] = one[i] > 0 ? 94 : -94;
            dueSignals("one not beyond 1 at " + i, 0, one);
        }
        ChartroomSpc x = frozenDesk(far);
        due("8 far: alarms", x.alarms(), 1);
        dueSignals("8 far, asked first", x, 9, rules(8));
        dueSignals("the first of them, asked then", x, 2, 0);
        x.newPhase();
        put(x, 0, 75);
        dueSignals("the first of another phase, asked then", x, 10, 0);
        due("8 far and another phase: alarms", x.alarms(), 1);
        dueSignals("8 far behind a near one", rules(8), 0, 95, 95, -95, -95, 95, 95, -95, -95);
    }

    private static void promises17To19PointsAndPhases() {
        ChartroomSpc x = frozenDesk(1, 1, 1, 1, -1, 1, 1, 1, 1, 1);
        dueSignals("9 with one on the other side", x, 11, 0);
        x.exclude(6, 1);
        due("9 without it: signals", x.signals(11), rules(2));
        due("9 without it: windows", x.signalsByWindows(11), rules(2));
        due("9 without it: firstOf", x.firstOf(11, 2), 2);
        due("an excluded one: signals", x.signals(6), 0);
        due("an excluded one: windows", x.signalsByWindows(6), 0);
        due("an excluded one: firstOf", x.firstOf(6, 1), ChartroomSpc.NONE);
        x.exclude(11, 1);
        due("the last one excluded: signals", x.signals(11), 0);
        due("the last one excluded: windows", x.signalsByWindows(11), 0);
        due("the last one excluded: firstOf", x.firstOf(11, 2), ChartroomSpc.NONE);
        due("the one ahead of it: signals", x.signals(10), 0);

        ChartroomSpc rising = frozenDesk(-2, -1, 0);
        rising.newPhase();
        halves(rising, 1, 2, 3);
        dueSignals("6 rising in two phases", rising, 7, 0);
        halves(rising, 4, 5);
        dueSignals("5 rising in the phase", rising, 9, 0);
        halves(rising, 6);
        due("6 rising in the phase: signals", rising.signals(10) & rules(3), rules(3));
        due("6 rising in the phase: windows", rising.signalsByWindows(10) & rules(3), rules(3));
        due("6 rising in the phase: firstOf", rising.firstOf(10, 3), 5);

        ChartroomSpc own = desk(2, 10, 12, 10, 12, 10, 12, 30, 32);
        dueSignals("limits of its own points", own, 3, rules(1));
        put(own, 10, 12, 30, 32, 30, 32, 30, 32);
        due("limits follow the points", own.center(0), 21000);
        due("limits follow the points", own.signals(0), rules(1));
    }

    private static void promises17To19WrongInputs() {
        ChartroomSpc x = frozenDesk(283);
        put(x, 1);
        for (int subgroup : new int[] {3, -1, Integer.MAX_VALUE, Integer.MIN_VALUE}) {
            dueThrows("signals(" + subgroup + ")", INDEX, () -> x.signals(subgroup));
            dueThrows("signalsByWindows(" + subgroup + ")", INDEX, () -> x.signalsByWindows(subgroup));
            dueThrows("firstOf(" + subgroup + ", 1)", INDEX, () -> x.firstOf(subgroup, 1));
        }
        for (int rule : new int[] {0, 9, -1, Integer.MAX_VALUE, Integer.MIN_VALUE}) {
            dueThrows("firstOf(2, " + rule + ")", INDEX, () -> x.firstOf(2, rule));
            dueThrows("firstOf(0, " + rule + ") of an excluded one", INDEX, () -> x.firstOf(0, rule));
        }
        due("firstOf(2, 1)", x.firstOf(2, 1), 2);
        due("firstOf(2, 8)", x.firstOf(2, 8), ChartroomSpc.NONE);
    }

    private static void promise20IsWide() {
        // the mean range is 1000 and the limit 3267: a range of 3 is not wide, one of 4 is
        ChartroomSpc x = desk(2, 0, 1, 0, 1);
        x.freeze(0);
        put(x, 0, 3, 0, 4, 4, 0);
        due("isWide(0)", x.isWide(0), false);
        due("isWide(2)", x.isWide(2), false);
        due("isWide(3)", x.isWide(3), true);
        due("isWide(4)", x.isWide(4), true);
        x.exclude(3, 1);
        due("isWide of an excluded one", x.isWide(3), false);
        // the mean range is 1000000 and the limit 3267000: just at it is not wide
        ChartroomSpc edge = desk(2, 0, 1000, 0, 1000);
        edge.freeze(0);
        put(edge, 0, 3267, 0, 3268);
        due("just at the limit", edge.isWide(2), false);
        due("just above the limit", edge.isWide(3), true);
        edge.newPhase();
        put(edge, 0, 3268);
        due("by the limit of its own phase", edge.isWide(4), false);
        dueThrows("isWide(5)", INDEX, () -> edge.isWide(5));
        dueThrows("isWide(-1)", INDEX, () -> edge.isWide(-1));
        due("width 0", desk(2, 5, 5).isWide(0), false);
    }

    private static void promise21Alarms() {
        due("no alarms", new ChartroomSpc().alarms(), 0);
        ChartroomSpc x = frozenDesk(283, 0, -283, 1, 283);
        due("three alarms", x.alarms(), 3);
        x.exclude(2, 1);
        due("two alarms", x.alarms(), 2);
        due("alarms from the first subgroup on", desk(2, 10, 12, 10, 12, 10, 12, 30, 32).alarms(), 4);
        x.newPhase();
        put(x, 0, 75, -75, 0);
        x.freeze(1);
        halves(x, 283, -283);
        due("alarms of two phases", x.alarms(), 4);
        ChartroomSpc near = frozenDesk(1, 1, 1, 1, 1, 1, 1, 1);
        near.newPhase();
        put(near, 0, 75, -75, 0);
        near.freeze(1);
        near.exclude(10, 1);
        near.exclude(11, 1);
        halves(near, 1);
        due("counts begin anew with a phase", near.alarms(), 0);
        halves(near, 1, 1, 1, 1, 1, 1, 1, 1);
        due("9 in the second phase", near.alarms(), 1);
        ChartroomSpc two = frozenDesk(0, 283, 283);
        due("some rules count once", two.alarms(), 2);
    }

    private static void promise22SetWeight() {
        ChartroomSpc x = new ChartroomSpc();
        due("setWeight(1)", x.setWeight(1), 2);
        due("setWeight(10)", x.setWeight(10), 1);
        for (int tenths : new int[] {0, 11, -1, Integer.MAX_VALUE, Integer.MIN_VALUE}) {
            dueThrows("setWeight(" + tenths + ")", ARGUMENT, () -> x.setWeight(tenths));
        }
        due("setWeight(2)", x.setWeight(2), 10);
    }

    private static void promise23Weighted() {
        ChartroomSpc x = frozenDesk(10, -10, 3);
        due("weighted(2)", x.weighted(2), 1000);
        due("weighted(3)", x.weighted(3), -200);
        // 2 * (1500 + 200) / 10 is 340
        due("weighted(4)", x.weighted(4), 140);
        x.setWeight(10);
        due("weight 10", x.weighted(4), 1500);
        x.setWeight(1);
        due("weight 1, first", x.weighted(2), 500);
        due("weight 1, second", x.weighted(3), -50);
        due("weight 1, third", x.weighted(4), 105);
        x.exclude(3, 1);
        due("without the excluded one", x.weighted(4), 600);
        dueThrows("weighted of an excluded one", STATE, () -> x.weighted(3));
        dueThrows("weighted(5)", INDEX, () -> x.weighted(5));
        dueThrows("weighted(-1)", INDEX, () -> x.weighted(-1));
        // center 333 of the means 333, 333, 333, then floors: 3 * (667 - 333) / 10 is 100.2
        ChartroomSpc floors = desk(3, 0, 0, 1, 0, 0, 1);
        floors.freeze(0);
        floors.setWeight(3);
        put(floors, 0, 1, 1, 0, 0, 0);
        due("floor above 0", floors.weighted(2), 433);
        // 3 * (0 - 433) / 10 is -129.9, floored -130
        due("floor below 0", floors.weighted(3), 303);
        floors.newPhase();
        put(floors, 1, 1, 1, 2, 2, 2);
        due("begins anew with the center of the phase", floors.weighted(4), 1350);
    }

    private static void promise24Cumulative() {
        // s is 47000, h is 23500
        ChartroomSpc x = frozenDesk(100, -60, 30, -200, 0);
        due("upper 2", x.cumulative(2, true), 26500);
        due("lower 2", x.cumulative(2, false), 0);
        due("upper 3", x.cumulative(3, true), 0);
        due("lower 3", x.cumulative(3, false), 6500);
        due("upper 4", x.cumulative(4, true), 0);
        due("lower 4", x.cumulative(4, false), 0);
        due("lower 5", x.cumulative(5, false), 76500);
        due("lower 6", x.cumulative(6, false), 53000);
        x.exclude(5, 1);
        due("lower 6 without 5", x.cumulative(6, false), 0);
        dueThrows("cumulative of an excluded one", STATE, () -> x.cumulative(5, true));
        dueThrows("cumulative(7)", INDEX, () -> x.cumulative(7, true));
        dueThrows("cumulative(-1)", INDEX, () -> x.cumulative(-1, false));
        // the width is 1880: s is floor(626.67), h is floor(313)
        ChartroomSpc floors = desk(2, 0, 1, 0, 1);
        floors.freeze(0);
        put(floors, 1, 2);
        due("floors, upper", floors.cumulative(2, true), 687);
        // the width is 1023 with s 341 and h floor(170.5)
        ChartroomSpc half = desk(3, 0, 0, 1, 0, 0, 1);
        half.freeze(0);
        put(half, 1, 1, 1, 1, 1, 1);
        due("half, upper", half.cumulative(2, true), 497);
        due("half, upper again", half.cumulative(3, true), 994);
        half.newPhase();
        put(half, 0, 0, 1);
        due("begins anew with a phase", half.cumulative(4, true), 0);
        ChartroomSpc great = desk(6);
        for (int i = 0; i < 12; i++) {
            great.put(-9999);
        }
        great.freeze(0);
        for (int i = 0; i < 348; i++) {
            great.put(9999);
        }
        due("the greatest sum", great.cumulative(59, true), 58L * 19998000);
        due("its lower sum", great.cumulative(59, false), 0);
    }

    private static void promise25Capability() {
        int[] divisors = {1128, 1693, 2059, 2326, 2534};
        for (int size = 2; size <= 6; size++) {
            int[] values = new int[size];
            values[0] = 6;
            long spread = floorOf(6000000, divisors[size - 2]);
            due("capability at size " + size, desk(size, values).capability(0, -7, 9, false),
                    floorOf(16000000, 6 * spread));
            values[0] = 100;
            spread = floorOf(100000000, divisors[size - 2]);
            due("the widest at size " + size, desk(size, values).capability(0, -9999, 9999, false),
                    floorOf(19998000000L, 6 * spread));
        }
        // center 3000, mean range 6000, d is 5319
        ChartroomSpc x = desk(2, 0, 6);
        due("nearer to the lowest", x.capability(0, 0, 10, true), 188);
        due("nearer to the highest", x.capability(0, -10, 4, true), 62);
        due("not centered", x.capability(0, -10, 4, false), 438);
        due("below 0", x.capability(0, 4, 10, true), -63);
        due("below 0 on the other side", x.capability(0, -10, 2, true), -63);
        due("nothing between", x.capability(0, 3, 3, false), 0);
        due("nothing between, centered", x.capability(0, 3, 3, true), 0);
        due("the widest", x.capability(0, -9999, 9999, false), floorOf(19998000000L, 6 * 5319));
        due("the widest, centered", x.capability(0, -9999, 9999, true), floorOf(9996000000L, 3 * 5319));
        dueThrows("lowest too low", ARGUMENT, () -> x.capability(0, -10000, 0, false));
        dueThrows("lowest too high", ARGUMENT, () -> x.capability(0, 10000, 10000, false));
        dueThrows("highest too high", ARGUMENT, () -> x.capability(0, 0, 10000, true));
        dueThrows("highest below lowest", ARGUMENT, () -> x.capability(0, 5, 4, true));
        dueThrows("extremes", ARGUMENT, () -> x.capability(0, Integer.MIN_VALUE, Integer.MAX_VALUE, true));
        dueThrows("no such phase", INDEX, () -> x.capability(1, 5, 4, true));
        dueThrows("phase -1", INDEX, () -> x.capability(-1, 0, 4, true));
        x.newPhase();
        dueThrows("no limits, wrong bounds", ARGUMENT, () -> x.capability(1, 5, 4, true));
        dueThrows("no limits", STATE, () -> x.capability(1, 4, 5, true));
        put(x, 5, 5);
        dueThrows("the spread is 0, wrong bounds", ARGUMENT, () -> x.capability(1, 5, 4, true));
        dueThrows("the spread is 0", STATE, () -> x.capability(1, 4, 5, true));
        dueThrows("the spread is 0, not centered", STATE, () -> x.capability(1, 4, 5, false));
        // the mean range of 60 subgroups, one with the range 1, is 17: d is 15
        int[] values = new int[120];
        values[119] = 1;
        due("the least spread", desk(2, values).capability(0, 0, 1, false), floorOf(1000000, 6 * 15));
        due("a great index", desk(2, values).capability(0, -9999, 9999, false), floorOf(19998000000L, 6 * 15));
    }
}
