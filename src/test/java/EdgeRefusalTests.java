/**
 * The terms of the document: a call that throws changes nothing, and so does a call that only asks. Two desks
 * are brought up alike; one of them refuses a call (or answers it), and then both must tell the same story.
 */
public final class EdgeRefusalTests extends DeskChecks {
    private static final int[] FAR = {Integer.MIN_VALUE, Integer.MAX_VALUE};

    public static void main(String[] args) {
        for (int state = 0; state < STATES.length; state++) {
            refusedMeasurements(state);
            refusedPhases(state);
            refusedSubgroups(state);
            refusedCapability(state);
            answers(state);
        }
        refusedByTheState();
        finish();
    }

    // ---- the states of a desk

    private static final String[] STATES = {"a new desk", "one begun", "some phases and excluded ones",
        "some phases and one begun", "10 phases", "60 subgroups", "a new phase without subgroups"};

    private static ChartroomSpc deskIn(int state) {
        ChartroomSpc x = new ChartroomSpc();
        switch (state) {
            case 0: break;
            case 1: put(x, 7, -3, 4); break;
            case 2: phases(x); break;
            case 3: phases(x); put(x, -5, 6); break;
            case 4: tenPhases(x); break;
            case 5: sixty(x); break;
            default: phases(x); x.newPhase(); break;
        }
        return x;
    }

    /** The phase 0 frozen with a point excluded, the phase 1 with one of two points excluded. */
    private static void phases(ChartroomSpc x) {
        x.begin(3);
        x.setWeight(7);
        put(x, 0, 2, 4, 1, 1, 9, -8, 0, 3);
        x.freeze(0);
        put(x, 50, 60, 70);
        x.exclude(1, 4);
        x.newPhase();
        put(x, 5, 5, 6, 7, 9, 8);
        x.exclude(5, 9);
    }

    private static void tenPhases(ChartroomSpc x) {
        x.begin(2);
        put(x, 0, 3);
        for (int i = 1; i < 10; i++) {
            x.newPhase();
            put(x, i, -i);
        }
        x.exclude(9, 2);
    }

    private static void sixty(ChartroomSpc x) {
        x.begin(2);
        for (int i = 0; i < 60; i++) {
            put(x, i % 7, i % 3);
        }
        x.freeze(0);
        x.exclude(58, 3);
    }

    // ---- the story that a desk tells

    private interface Number {
        long ask();
    }

    private static void tell(StringBuilder story, Number number) {
        try {
            story.append(number.ask());
        } catch (RuntimeException e) {
            story.append(e.getClass().getSimpleName());
        }
        story.append(' ');
    }

    private static void tellDone(StringBuilder story, Call call) {
        tell(story, () -> {
            call.run();
            return 0;
        });
    }

    /** Some 400 calls at most: the answers of now, then calls that bring out what is hidden, and those answers. */
    private static String story(ChartroomSpc x) {
        StringBuilder story = new StringBuilder();
        tellAll(story, x);
        int last = x.subgroups() - 1;
        tell(story, () -> x.exclude(last, 0));
        tell(story, () -> x.exclude(1, 0));
        for (int phase = 0; phase < Math.min(3, x.phases()); phase++) {
            int number = phase;
            tellDone(story, () -> x.thaw(number));
        }
        tell(story, () -> x.setWeight(3));
        for (int i = 0; i < 6; i++) {
            int value = i * i;
            tell(story, () -> x.put(value) ? 1 : 0);
        }
        tellDone(story, () -> x.freeze(x.phases() - 1));
        tellAll(story, x);
        tell(story, x::newPhase);
        tell(story, x::phases);
        return story.toString();
    }

    private static void tellAll(StringBuilder story, ChartroomSpc x) {
        story.append("\n  ").append(x.subgroups()).append(' ').append(x.phases()).append(' ').append(x.alarms());
        for (int phase = 0; phase < x.phases(); phase += phase == 2 ? 7 : 1) {
            int number = phase;
            story.append("\n  phase ").append(phase).append(": ");
            tell(story, () -> x.points(number));
            tell(story, () -> x.center(number));
            tell(story, () -> x.width(number));
            tell(story, () -> x.rangeLimit(number));
            tell(story, () -> x.capability(number, -5, 5, true));
        }
        int last = x.subgroups() - 1;
        for (int subgroup = 0; subgroup <= last; subgroup += subgroup == 4 && last > 9 ? last - 6 : 1) {
            int number = subgroup;
            story.append("\n  subgroup ").append(subgroup).append(": ");
            tell(story, () -> x.mean(number));
            tell(story, () -> x.range(number));
            tell(story, () -> x.phaseOf(number));
            tell(story, () -> x.signals(number));
            tell(story, () -> x.signalsByWindows(number));
            tell(story, () -> x.isWide(number) ? 1 : 0);
            tell(story, () -> x.weighted(number));
            tell(story, () -> x.cumulative(number, true));
            tell(story, () -> x.cumulative(number, false));
        }
    }

    private interface DeskCall {
        void run(ChartroomSpc x);
    }

    private static void dueRefused(int state, String what, Class<?> want, DeskCall call) {
        test("a call that throws changes nothing: " + STATES[state] + ", " + what, () -> {
            ChartroomSpc x = deskIn(state);
            dueThrows(what, want, () -> call.run(x));
            due("the story behind " + what, story(x), story(deskIn(state)));
        });
    }

    private static void dueAnswered(int state, String what, DeskCall call) {
        test("a call that asks changes nothing: " + STATES[state] + ", " + what, () -> {
            ChartroomSpc x = deskIn(state);
            call.run(x);
            due("the story behind " + what, story(x), story(deskIn(state)));
        });
    }

    // ---- what is refused in each state

    private static void refusedMeasurements(int state) {
        for (int size : new int[] {1, 7, 0, -1, FAR[0], FAR[1]}) {
            dueRefused(state, "begin(" + size + ")", ARGUMENT, x -> x.begin(size));
        }
        for (int value : new int[] {-10000, 10000, FAR[0], FAR[1]}) {
            dueRefused(state, "put(" + value + ")", ARGUMENT, x -> x.put(value));
        }
        for (int tenths : new int[] {0, 11, -1, FAR[0], FAR[1]}) {
            dueRefused(state, "setWeight(" + tenths + ")", ARGUMENT, x -> x.setWeight(tenths));
        }
    }

    private static void refusedPhases(int state) {
        int count = deskIn(state).phases();
        for (int phase : new int[] {-1, count, count + 1, FAR[0], FAR[1]}) {
            dueRefused(state, "freeze(" + phase + ")", INDEX, x -> x.freeze(phase));
            dueRefused(state, "thaw(" + phase + ")", INDEX, x -> x.thaw(phase));
            dueRefused(state, "points(" + phase + ")", INDEX, x -> x.points(phase));
            dueRefused(state, "center(" + phase + ")", INDEX, x -> x.center(phase));
            dueRefused(state, "width(" + phase + ")", INDEX, x -> x.width(phase));
            dueRefused(state, "rangeLimit(" + phase + ")", INDEX, x -> x.rangeLimit(phase));
        }
    }

    private static void refusedSubgroups(int state) {
        int count = deskIn(state).subgroups();
        for (int subgroup : new int[] {-1, count, count + 1, FAR[0], FAR[1]}) {
            String at = "(" + subgroup + ")";
            dueRefused(state, "exclude" + at, INDEX, x -> x.exclude(subgroup, 1));
            dueRefused(state, "exclude for 10" + at, INDEX, x -> x.exclude(subgroup, 10));
            dueRefused(state, "include" + at, INDEX, x -> x.exclude(subgroup, 0));
            dueRefused(state, "mean" + at, INDEX, x -> x.mean(subgroup));
            dueRefused(state, "range" + at, INDEX, x -> x.range(subgroup));
            dueRefused(state, "phaseOf" + at, INDEX, x -> x.phaseOf(subgroup));
            dueRefused(state, "signals" + at, INDEX, x -> x.signals(subgroup));
            dueRefused(state, "signalsByWindows" + at, INDEX, x -> x.signalsByWindows(subgroup));
            dueRefused(state, "firstOf" + at, INDEX, x -> x.firstOf(subgroup, 1));
            dueRefused(state, "isWide" + at, INDEX, x -> x.isWide(subgroup));
            dueRefused(state, "weighted" + at, INDEX, x -> x.weighted(subgroup));
            dueRefused(state, "cumulative" + at, INDEX, x -> x.cumulative(subgroup, true));
        }
        for (int reason : new int[] {-1, 10, FAR[0], FAR[1]}) {
            for (int subgroup = 0; subgroup < count; subgroup += count > 9 ? count - 1 : 1) {
                int number = subgroup;
                dueRefused(state, "exclude(" + subgroup + ", " + reason + ")", ARGUMENT, x -> x.exclude(number, reason));
            }
        }
        for (int rule : new int[] {-1, 0, 9, FAR[0], FAR[1]}) {
            dueRefused(state, "firstOf(0, " + rule + ")", INDEX, x -> x.firstOf(0, rule));
        }
    }

    private static void refusedCapability(int state) {
        int count = deskIn(state).phases();
        for (int phase : new int[] {-1, count, FAR[0], FAR[1]}) {
            dueRefused(state, "capability(" + phase + ", 0, 1)", INDEX, x -> x.capability(phase, 0, 1, true));
            dueRefused(state, "capability(" + phase + ", 1, 0)", INDEX, x -> x.capability(phase, 1, 0, true));
        }
        for (int phase : new int[] {0, count - 1}) {
            String at = "capability(" + phase;
            dueRefused(state, at + ", 1, 0)", ARGUMENT, x -> x.capability(phase, 1, 0, true));
            dueRefused(state, at + ", -10000, 0)", ARGUMENT, x -> x.capability(phase, -10000, 0, false));
            dueRefused(state, at + ", 0, 10000)", ARGUMENT, x -> x.capability(phase, 0, 10000, false));
        }
    }

    /** What only some of the states refuse. */
    private static void refusedByTheState() {
        dueRefused(0, "newPhase", STATE, ChartroomSpc::newPhase);
        dueRefused(1, "newPhase", STATE, ChartroomSpc::newPhase);
        dueRefused(3, "newPhase", STATE, ChartroomSpc::newPhase);
        dueRefused(4, "newPhase", STATE, ChartroomSpc::newPhase);
        dueRefused(6, "newPhase", STATE, ChartroomSpc::newPhase);
        dueRefused(5, "put(0)", STATE, x -> x.put(0));
        dueRefused(5, "put(9999)", STATE, x -> x.put(9999));
        for (int state : new int[] {0, 1, 2, 3, 4, 5, 6}) {
            boolean isFrozen = state == 2 || state == 3 || state >= 5;
            dueRefused(state, "freeze(0), or thaw(0)", STATE, x -> {
                if (isFrozen) {
                    x.freeze(0);
                } else {
                    x.thaw(0);
                }
            });
        }
        dueRefused(0, "freeze(0) with no point", STATE, x -> x.freeze(0));
        dueRefused(1, "freeze(0) with one begun", STATE, x -> x.freeze(0));
        dueRefused(2, "freeze(1) with 1 point", STATE, x -> x.freeze(1));
        dueRefused(2, "thaw(1)", STATE, x -> x.thaw(1));
        dueRefused(4, "freeze(9) with no point", STATE, x -> x.freeze(9));
        dueRefused(4, "freeze(8) with 1 point", STATE, x -> x.freeze(8));
        dueRefused(6, "freeze(2) with no subgroup", STATE, x -> x.freeze(2));
        dueRefused(0, "center(0)", STATE, x -> x.center(0));
        dueRefused(1, "width(0)", STATE, x -> x.width(0));
        dueRefused(4, "center(9)", STATE, x -> x.center(9));
        dueRefused(6, "rangeLimit(2)", STATE, x -> x.rangeLimit(2));
        dueRefused(6, "capability(2)", STATE, x -> x.capability(2, 0, 1, true));
        dueRefused(2, "weighted(1)", STATE, x -> x.weighted(1));
        dueRefused(2, "cumulative(5)", STATE, x -> x.cumulative(5, false));
        dueRefused(5, "weighted(58)", STATE, x -> x.weighted(58));
        dueRefused(4, "cumulative(9)", STATE, x -> x.cumulative(9, true));
    }

    /** Each call that only asks, and the ones that set what is set. */
    private static void answers(int state) {
        dueAnswered(state, "counts", x -> {
            x.subgroups();
            x.phases();
            x.alarms();
            x.points(0);
        });
        int count = deskIn(state).subgroups();
        if (count > 0) {
            dueAnswered(state, "of the first and the last subgroup", x -> {
                for (int subgroup : new int[] {0, count - 1}) {
                    x.mean(subgroup);
                    x.range(subgroup);
                    x.phaseOf(subgroup);
                    x.signals(subgroup);
                    x.signalsByWindows(subgroup);
                    x.firstOf(subgroup, 1);
                    x.firstOf(subgroup, 8);
                    x.isWide(subgroup);
                }
                x.weighted(0);
                x.cumulative(0, true);
                x.center(0);
                x.width(0);
                x.rangeLimit(0);
                x.capability(0, 0, 1, true);
            });
            dueAnswered(state, "the reasons that there are", x -> {
                for (int subgroup : new int[] {0, count - 1}) {
                    int reason = x.exclude(subgroup, 5);
                    x.exclude(subgroup, reason);
                }
            });
        }
        dueAnswered(state, "the weight that there is", x -> x.setWeight(x.setWeight(4)));
    }
}
