/** A test for each boundary sentence of the promises 1 to 7: measurements and phases. */
public final class EdgeMeasurementTests extends DeskChecks {
    public static void main(String[] args) {
        promise1();
        promise2();
        promise2BeginsAnew();
        promise3();
        promise3Sixty();
        promise4();
        promise4Refused();
        promise5();
        promise5Stays();
        promise5Refused();
        promise6();
        promise7();
        promise7Points();
        finish();
    }

    private static final int[] NO_PHASE_OF_ONE = {1, -1, Integer.MIN_VALUE, Integer.MAX_VALUE};
    private static final int[] NO_PHASE_OF_TEN = {10, -1, Integer.MIN_VALUE, Integer.MAX_VALUE};

    /** Ten phases of one subgroup of 2 each. */
    private static ChartroomSpc tenPhases() {
        ChartroomSpc x = desk(2, 0, 0);
        for (int i = 1; i < 10; i++) {
            x.newPhase();
            put(x, i, i);
        }
        return x;
    }

    private static void promise1() {
        test("1: creates a desk for subgroups of 5", () -> {
            ChartroomSpc x = new ChartroomSpc();
            for (int i = 1; i <= 4; i++) {
                due("put " + i, x.put(i), false);
            }
            due("subgroups after 4", x.subgroups(), 0);
            due("put 5", x.put(9), true);
            due("subgroups after 5", x.subgroups(), 1);
            due("mean", x.mean(0), 3800);
            due("width", x.width(0), 8 * 577);
            due("rangeLimit", x.rangeLimit(0), 8 * 2114);
            // d is floor(8000000 / 2326), 3439
            due("capability", x.capability(0, 0, 9, false), floorOf(9000000, 6 * 3439));
        });
        test("1: phase 0 begins with the subgroup 0", () -> {
            ChartroomSpc x = new ChartroomSpc();
            due("phases", x.phases(), 1);
            due("points, no subgroup", x.points(0), 0);
            put(x, 1, 2, 3, 4, 5);
            due("phaseOf(0)", x.phaseOf(0), 0);
            due("points", x.points(0), 1);
            due("the new phase", x.newPhase(), 1);
        });
        test("1: a new desk has no subgroup", () -> {
            ChartroomSpc x = new ChartroomSpc();
            due("subgroups", x.subgroups(), 0);
            due("alarms", x.alarms(), 0);
            dueThrows("mean(0)", INDEX, () -> x.mean(0));
            dueThrows("signals(0)", INDEX, () -> x.signals(0));
            dueThrows("exclude(0, 1)", INDEX, () -> x.exclude(0, 1));
        });
        test("1: the phase of a new desk has no limits and is not frozen", () -> {
            ChartroomSpc x = new ChartroomSpc();
            dueThrows("center", STATE, () -> x.center(0));
            dueThrows("thaw", STATE, () -> x.thaw(0));
        });
        test("1: the weight is 2 at first", () -> due("setWeight", new ChartroomSpc().setWeight(2), 2));
        test("1: a new desk knows nothing of another one", () -> {
            ChartroomSpc other = desk(2, 0, 2, 4, 8, 1);
            other.freeze(0);
            other.exclude(0, 3);
            other.setWeight(7);
            ChartroomSpc x = new ChartroomSpc();
            put(x, 1, 1, 1, 1);
            due("subgroups", x.subgroups(), 0);
            put(x, 1);
            due("reason", x.exclude(0, 0), 0);
            due("weight", x.setWeight(1), 2);
            due("center", x.center(0), 1000);
            due("center of the other", other.center(0), 3500);
        });
    }

    private static void promise2() {
        for (int size = 2; size <= 6; size++) {
            int due = size;
            test("2: size: 2 to 6: " + size, () -> {
                ChartroomSpc x = desk(due);
                for (int subgroup = 0; subgroup < 2; subgroup++) {
                    for (int i = 1; i < due; i++) {
                        due("put " + i, x.put(0), false);
                    }
                    due("subgroups ahead of the last put", x.subgroups(), subgroup);
                    due("last put", x.put(due), true);
                    due("subgroups", x.subgroups(), subgroup + 1);
                    due("mean", x.mean(subgroup), 1000);
                }
            });
        }
        for (int size : new int[] {1, 7, 0, -1, Integer.MIN_VALUE, Integer.MAX_VALUE}) {
            test("2: throws IllegalArgumentException if size is out of range: " + size, () -> {
                ChartroomSpc x = new ChartroomSpc();
                dueThrows("begin", ARGUMENT, () -> x.begin(size));
                put(x, 1, 2, 3, 4);
                dueThrows("begin amid a subgroup", ARGUMENT, () -> x.begin(size));
                due("subgroups of 5 still", x.put(5), true);
                dueThrows("begin behind a subgroup", ARGUMENT, () -> x.begin(size));
                due("mean", x.mean(0), 3000);
            });
        }
    }

    private static void promise2BeginsAnew() {
        test("2: begins anew: the subgroups are gone", () -> {
            ChartroomSpc x = desk(3, 1, 2, 3, 4, 5, 6);
            x.begin(2);
            due("subgroups", x.subgroups(), 0);
            due("points", x.points(0), 0);
            due("alarms", x.alarms(), 0);
            dueThrows("mean", INDEX, () -> x.mean(0));
            dueThrows("center", STATE, () -> x.center(0));
            put(x, 10, 20);
            due("mean", x.mean(0), 15000);
            due("center", x.center(0), 15000);
            due("width", x.width(0), 18800);
            due("points", x.points(0), 1);
        });
        test("2: begins anew: a subgroup that is begun is gone", () -> {
            ChartroomSpc x = desk(3, -50, 50);
            x.begin(2);
            due("first put", x.put(7), false);
            due("second put", x.put(8), true);
            due("mean", x.mean(0), 7500);
            due("range", x.range(0), 1);
        });
        test("2: begins anew with the size that it has, too", () -> {
            ChartroomSpc x = desk(2, 1, 2, 3);
            x.begin(2);
            due("subgroups", x.subgroups(), 0);
            due("first put", x.put(7), false);
            due("second put", x.put(8), true);
        });
        test("2: begins anew: there is one phase, behind 10 too", () -> {
            ChartroomSpc x = tenPhases();
            x.begin(2);
            due("phases", x.phases(), 1);
            dueThrows("points(1)", INDEX, () -> x.points(1));
            put(x, 1, 1);
            due("phaseOf(0)", x.phaseOf(0), 0);
            due("newPhase", x.newPhase(), 1);
            due("points of the new phase", x.points(1), 0);
            dueThrows("center of the new phase", STATE, () -> x.center(1));
            put(x, 3, 3);
            due("phaseOf(1)", x.phaseOf(1), 1);
            due("center of the new phase", x.center(1), 3000);
        });
        test("2: begins anew: no phase is frozen", () -> {
            ChartroomSpc x = frozenDesk(1);
            x.newPhase();
            freezeLastPhase(x);
            x.begin(2);
            dueThrows("thaw", STATE, () -> x.thaw(0));
            put(x, 4, 6);
            due("center", x.center(0), 5000);
            x.newPhase();
            dueThrows("thaw(1)", STATE, () -> x.thaw(1));
            dueThrows("center(1)", STATE, () -> x.center(1));
        });
        test("2: begins anew: no subgroup is excluded", () -> {
            ChartroomSpc x = desk(2, 1, 1, 2, 2);
            x.exclude(0, 9);
            x.exclude(1, 1);
            x.begin(2);
            put(x, 3, 3, 4, 4);
            due("points", x.points(0), 2);
            due("reason of 0", x.exclude(0, 0), 0);
            due("reason of 1", x.exclude(1, 0), 0);
        });
        test("2: begins anew: the weight is 2", () -> {
            ChartroomSpc x = new ChartroomSpc();
            x.setWeight(10);
            x.begin(5);
            due("setWeight", x.setWeight(1), 2);
        });
        test("2: begins anew behind 60 subgroups", () -> {
            ChartroomSpc x = desk(2);
            putZeros(x, 120);
            x.begin(6);
            for (int i = 1; i < 6; i++) {
                due("put " + i, x.put(i), false);
            }
            due("put 6", x.put(6), true);
            due("subgroups", x.subgroups(), 1);
        });
    }

    private static void promise3() {
        test("3: value: -9999, the least", () -> {
            ChartroomSpc x = desk(2);
            due("first", x.put(-9999), false);
            due("second", x.put(-9999), true);
            due("mean", x.mean(0), -9999000);
            due("range", x.range(0), 0);
        });
        test("3: value: 9999, the greatest", () -> {
            ChartroomSpc x = desk(2);
            due("first", x.put(9999), false);
            due("second", x.put(9999), true);
            due("mean", x.mean(0), 9999000);
            due("range", x.range(0), 0);
        });
        test("3: value: -1, 0 and 1 are measurements", () -> {
            ChartroomSpc x = desk(3, -1, 0);
            due("third", x.put(1), true);
            due("mean", x.mean(0), 0);
            due("range", x.range(0), 2);
        });
        for (int value : new int[] {-10000, 10000, Integer.MIN_VALUE, Integer.MAX_VALUE}) {
            test("3: throws IllegalArgumentException if value is out of range: " + value, () -> {
                ChartroomSpc x = desk(2);
                dueThrows("as the first of a subgroup", ARGUMENT, () -> x.put(value));
                due("first", x.put(5), false);
                dueThrows("as the last of a subgroup", ARGUMENT, () -> x.put(value));
                due("subgroups", x.subgroups(), 0);
                due("second", x.put(8), true);
                due("mean", x.mean(0), 6500);
                due("range", x.range(0), 3);
            });
        }
    }

    private static void promise3Sixty() {
        for (int size : new int[] {2, 6}) {
            test("3: returns true if a subgroup is done by that: up to 60 of them, of " + size, () -> {
                ChartroomSpc x = desk(size);
                for (int subgroup = 0; subgroup < 60; subgroup++) {
                    for (int i = 1; i < size; i++) {
                        due("put " + i + " of " + subgroup, x.put(subgroup), false);
                    }
                    due("the last put of " + subgroup, x.put(subgroup), true);
                }
                due("subgroups", x.subgroups(), 60);
                due("points", x.points(0), 60);
                due("mean(59)", x.mean(59), 59000);
            });
            test("3: throws IllegalStateException if 60 subgroups are done, of " + size, () -> {
                ChartroomSpc x = desk(size);
                putZeros(x, 59 * size);
                due("at 59: subgroups", x.subgroups(), 59);
                for (int i = 1; i < size; i++) {
                    due("at 59: put " + i, x.put(0), false);
                }
                due("at 59: the last put", x.put(0), true);
                dueThrows("at 60", STATE, () -> x.put(0));
                dueThrows("at 60, once more", STATE, () -> x.put(9999));
                due("subgroups", x.subgroups(), 60);
            });
        }
        test("3: 60 subgroups are done, though excluded and in phases", () -> {
            ChartroomSpc x = tenPhases();
            putZeros(x, 100);
            for (int i = 0; i < 60; i++) {
                x.exclude(i, 1);
            }
            dueThrows("put", STATE, () -> x.put(0));
            due("subgroups", x.subgroups(), 60);
        });
        test("3: value is out of range and 60 subgroups are done: IllegalArgumentException", () -> {
            ChartroomSpc x = desk(2);
            putZeros(x, 120);
            dueThrows("put(10000)", ARGUMENT, () -> x.put(10000));
            dueThrows("put(-10000)", ARGUMENT, () -> x.put(-10000));
        });
    }

    private static void promise4() {
        test("4: begins another phase with the next subgroup", () -> {
            ChartroomSpc x = desk(2, 1, 1);
            x.newPhase();
            due("the subgroup ahead", x.phaseOf(0), 0);
            put(x, 2, 2, 3, 3);
            due("the next one", x.phaseOf(1), 1);
            due("the one behind that", x.phaseOf(2), 1);
            due("points(0)", x.points(0), 1);
            due("points(1)", x.points(1), 2);
        });
        test("4: returns its number: 1 to 9", () -> {
            ChartroomSpc x = desk(2, 0, 0);
            for (int i = 1; i < 10; i++) {
                due("newPhase", x.newPhase(), i);
                due("phases", x.phases(), i + 1);
                put(x, i, i);
                due("phaseOf", x.phaseOf(i), i);
                due("center", x.center(i), 1000 * i);
            }
        });
        test("4: subgroups that are excluded are subgroups of the last phase", () -> {
            ChartroomSpc x = desk(2, 1, 1);
            x.exclude(0, 1);
            due("newPhase", x.newPhase(), 1);
        });
        test("4: behind a phase that is frozen, the new one is not", () -> {
            ChartroomSpc x = frozenDesk(1);
            due("newPhase", x.newPhase(), 1);
            dueThrows("thaw(1)", STATE, () -> x.thaw(1));
            dueThrows("center(1)", STATE, () -> x.center(1));
            x.thaw(0);
        });
        test("4: behind 60 subgroups", () -> {
            ChartroomSpc x = desk(2);
            putZeros(x, 120);
            due("newPhase", x.newPhase(), 1);
            due("points(1)", x.points(1), 0);
            due("phaseOf(59)", x.phaseOf(59), 0);
            dueThrows("the last phase has no subgroups", STATE, x::newPhase);
        });
    }

    private static void promise4Refused() {
        test("4: throws IllegalStateException if the last phase has no subgroups: on a new desk", () -> {
            ChartroomSpc x = new ChartroomSpc();
            dueThrows("newPhase", STATE, x::newPhase);
            due("phases", x.phases(), 1);
        });
        test("4: throws IllegalStateException if the last phase has no subgroups: behind newPhase", () -> {
            ChartroomSpc x = desk(2, 1, 1);
            x.newPhase();
            dueThrows("newPhase", STATE, x::newPhase);
            due("phases", x.phases(), 2);
            put(x, 2, 2);
            due("with one subgroup", x.newPhase(), 2);
        });
        for (int size = 2; size <= 6; size++) {
            int due = size;
            test("4: throws IllegalStateException if a subgroup is begun and not done, of " + size, () -> {
                ChartroomSpc x = desk(due);
                putZeros(x, due);
                for (int i = 1; i < due; i++) {
                    x.put(i);
                    dueThrows("newPhase amid the second", STATE, x::newPhase);
                }
                due("phases", x.phases(), 1);
                due("the last put", x.put(0), true);
                due("newPhase", x.newPhase(), 1);
                due("phaseOf(1)", x.phaseOf(1), 0);
            });
        }
        test("4: throws IllegalStateException if there are 10 phases", () -> {
            ChartroomSpc x = tenPhases();
            dueThrows("newPhase", STATE, x::newPhase);
            due("phases", x.phases(), 10);
            put(x, 1, 1);
            dueThrows("newPhase behind another subgroup", STATE, x::newPhase);
            due("phaseOf(9)", x.phaseOf(9), 9);
            due("phaseOf(10)", x.phaseOf(10), 9);
            due("points(9)", x.points(9), 2);
        });
    }

    private static void promise5() {
        test("5: freezes a phase of 2 points", () -> {
            ChartroomSpc x = desk(2, 0, 2, 4, 8);
            x.freeze(0);
            x.thaw(0);
        });
        test("5: freezes a phase of 60 points", () -> {
            ChartroomSpc x = desk(2);
            putZeros(x, 120);
            x.freeze(0);
            due("center", x.center(0), 0);
            x.thaw(0);
        });
        test("5: freezes that phase alone: the first of two", () -> {
            ChartroomSpc x = desk(2, 0, 2, 4, 8);
            x.newPhase();
            put(x, 1, 1, 2, 2);
            x.freeze(0);
            dueThrows("thaw(1)", STATE, () -> x.thaw(1));
            put(x, 6, 6);
            due("center(1)", x.center(1), 3000);
            x.exclude(0, 1);
            due("center(0)", x.center(0), 3500);
        });
        test("5: freezes that phase alone: the last of 10", () -> {
            ChartroomSpc x = tenPhases();
            put(x, 11, 11);
            x.freeze(9);
            put(x, 50, 50);
            due("center(9)", x.center(9), 10000);
            for (int phase = 0; phase < 9; phase++) {
                int number = phase;
                dueThrows("thaw(" + phase + ")", STATE, () -> x.thaw(number));
            }
            x.thaw(9);
            due("thawed: center(9)", x.center(9), 23333);
        });
        test("5: frozen, thawed, frozen again: the numbers are as they are then", () -> {
            ChartroomSpc x = desk(2, 0, 2, 4, 8);
            x.freeze(0);
            put(x, 10, 16);
            x.thaw(0);
            x.freeze(0);
            put(x, 100, 100);
            due("center", x.center(0), 6667);
            due("width", x.width(0), 7520);
            due("rangeLimit", x.rangeLimit(0), 13068);
            x.exclude(0, 1);
            due("center still", x.center(0), 6667);
        });
    }

    private static void dueFrozen(String what, ChartroomSpc x) {
        due(what + ": center", x.center(0), 3500);
        due(what + ": width", x.width(0), 5640);
        due(what + ": rangeLimit", x.rangeLimit(0), 9801);
        // the mean range is 3000 and d is floor(3000000 / 1128), 2659
        due(what + ": capability", x.capability(0, 0, 10, false), floorOf(10000000, 6 * 2659));
        due(what + ": centered", x.capability(0, 0, 10, true), floorOf(3500000, 3 * 2659));
    }

    private static void promise5Stays() {
        test("5: when a phase is frozen, these numbers stay: another subgroup", () -> {
            ChartroomSpc x = desk(2, 0, 2, 4, 8);
            x.freeze(0);
            dueFrozen("at once", x);
            put(x, 100, 200);
            dueFrozen("with another subgroup", x);
            due("points", x.points(0), 3);
        });
        test("5: when a phase is frozen, these numbers stay: points excluded, even all", () -> {
            ChartroomSpc x = desk(2, 0, 2, 4, 8);
            x.freeze(0);
            x.exclude(0, 1);
            dueFrozen("with one point", x);
            x.exclude(1, 1);
            dueFrozen("with no point", x);
            due("points", x.points(0), 0);
            x.exclude(1, 0);
            dueFrozen("with one point again", x);
            due("points", x.points(0), 1);
        });
        test("5: when a phase is frozen, these numbers stay: a point included", () -> {
            ChartroomSpc x = desk(2, 0, 2, 100, 200, 4, 8);
            x.exclude(1, 1);
            x.freeze(0);
            x.exclude(1, 0);
            dueFrozen("with one more point", x);
            due("points", x.points(0), 3);
        });
        test("5: when a phase is frozen, these numbers stay: another phase", () -> {
            ChartroomSpc x = desk(2, 0, 2, 4, 8);
            x.freeze(0);
            x.newPhase();
            put(x, 100, 200, 300, 400);
            x.freeze(1);
            x.thaw(1);
            dueFrozen("with another phase", x);
        });
        test("5: signals, charts and wide ranges go by the frozen numbers", () -> {
            ChartroomSpc x = desk(2, 0, 2, 4, 8);
            x.freeze(0);
            put(x, 100, 110);
            due("signals", x.signals(2), rules(1));
            due("signalsByWindows", x.signalsByWindows(2), rules(1));
            due("isWide", x.isWide(2), true);
            due("weighted(0)", x.weighted(0), 3000);
            // s is 1880, h is 940
            due("cumulative(0, false)", x.cumulative(0, false), 1560);
        });
    }

    private static void promise5Refused() {
        for (int phase : NO_PHASE_OF_ONE) {
            test("5: throws IndexOutOfBoundsException if there is no such phase: " + phase + " of 1", () -> {
                ChartroomSpc x = desk(2, 0, 2, 4, 8);
                dueThrows("freeze", INDEX, () -> x.freeze(phase));
                dueThrows("thaw", STATE, () -> x.thaw(0));
            });
        }
        for (int phase : NO_PHASE_OF_TEN) {
            test("5: throws IndexOutOfBoundsException if there is no such phase: " + phase + " of 10",
                () -> dueThrows("freeze", INDEX, () -> tenPhases().freeze(phase)));
        }
        test("5: throws IllegalStateException if it is frozen", () -> {
            ChartroomSpc x = desk(2, 0, 2, 4, 8);
            x.freeze(0);
            put(x, 100, 200);
            dueThrows("freeze", STATE, () -> x.freeze(0));
            dueFrozen("refused", x);
            x.thaw(0);
            due("thawed: center", x.center(0), 52333);
        });
        test("5: throws IllegalStateException if it has fewer than 2 points: no subgroup", () -> {
            ChartroomSpc x = desk(2);
            dueThrows("freeze", STATE, () -> x.freeze(0));
            dueThrows("not frozen by that", STATE, () -> x.thaw(0));
        });
        test("5: throws IllegalStateException if it has fewer than 2 points: 1, and one begun", () -> {
            ChartroomSpc x = desk(3, 0, 1, 2);
            dueThrows("freeze with 1", STATE, () -> x.freeze(0));
            put(x, 3, 4);
            dueThrows("freeze with 1 and one begun", STATE, () -> x.freeze(0));
            dueThrows("not frozen by that", STATE, () -> x.thaw(0));
            put(x, 5);
            x.freeze(0);
        });
        test("5: throws IllegalStateException if it has fewer than 2 points: of 2, some excluded", () -> {
            ChartroomSpc x = desk(2, 0, 2, 4, 8);
            x.exclude(0, 1);
            dueThrows("freeze with 1", STATE, () -> x.freeze(0));
            x.exclude(1, 1);
            dueThrows("freeze with none", STATE, () -> x.freeze(0));
            dueThrows("not frozen by that", STATE, () -> x.thaw(0));
            x.exclude(0, 0);
            x.exclude(1, 0);
            x.freeze(0);
        });
        test("5: throws IllegalStateException if it has fewer than 2 points: they are in other phases", () -> {
            ChartroomSpc x = desk(2, 0, 2);
            x.newPhase();
            put(x, 4, 8);
            dueThrows("freeze(0)", STATE, () -> x.freeze(0));
            dueThrows("freeze(1)", STATE, () -> x.freeze(1));
            x.newPhase();
            dueThrows("freeze(2)", STATE, () -> x.freeze(2));
        });
    }

    private static void promise6() {
        test("6: thaws a phase: the numbers are those of its points now", () -> {
            ChartroomSpc x = desk(2, 0, 2, 4, 8);
            x.freeze(0);
            put(x, 10, 16);
            x.exclude(0, 1);
            x.thaw(0);
            due("center", x.center(0), 9500);
            due("width", x.width(0), 9400);
            due("rangeLimit", x.rangeLimit(0), 16335);
            // the mean range is 5000 and d is floor(5000000 / 1128), 4432
            due("capability", x.capability(0, 0, 10, false), floorOf(10000000, 6 * 4432));
        });
        test("6: thaws a phase: the numbers follow its points from then on", () -> {
            ChartroomSpc x = desk(2, 0, 2, 4, 8);
            x.freeze(0);
            x.thaw(0);
            due("center at once", x.center(0), 3500);
            put(x, 10, 16);
            due("center", x.center(0), 6667);
            x.exclude(0, 1);
            due("center without the first", x.center(0), 9500);
            x.exclude(0, 0);
            due("center with it", x.center(0), 6667);
        });
        test("6: thaws a phase of one point", () -> {
            ChartroomSpc x = desk(2, 0, 2, 4, 8);
            x.freeze(0);
            x.exclude(0, 1);
            x.thaw(0);
            due("center", x.center(0), 6000);
            dueThrows("freeze", STATE, () -> x.freeze(0));
        });
        test("6: thaws a phase of no point: it has no limits", () -> {
            ChartroomSpc x = desk(2, 0, 2, 4, 8);
            x.freeze(0);
            x.exclude(0, 1);
            x.exclude(1, 1);
            x.thaw(0);
            dueThrows("center", STATE, () -> x.center(0));
            dueThrows("width", STATE, () -> x.width(0));
            dueThrows("rangeLimit", STATE, () -> x.rangeLimit(0));
            dueThrows("capability", STATE, () -> x.capability(0, 0, 1, false));
            dueThrows("thaw again", STATE, () -> x.thaw(0));
            x.exclude(1, 0);
            due("center of the point that comes back", x.center(0), 6000);
        });
        test("6: thaws that phase alone", () -> {
            ChartroomSpc x = desk(2, 0, 2, 4, 8);
            x.freeze(0);
            x.newPhase();
            put(x, 0, 2, 4, 8);
            x.freeze(1);
            x.thaw(1);
            put(x, 100, 100);
            x.exclude(0, 1);
            due("center(0)", x.center(0), 3500);
            due("center(1)", x.center(1), 35667);
        });
        for (int phase : NO_PHASE_OF_ONE) {
            test("6: throws IndexOutOfBoundsException if there is no such phase: " + phase + " of 1", () -> {
                ChartroomSpc x = frozenDesk();
                dueThrows("thaw", INDEX, () -> x.thaw(phase));
                due("frozen still: center", x.center(0), 0);
                x.thaw(0);
            });
        }
        for (int phase : NO_PHASE_OF_TEN) {
            test("6: throws IndexOutOfBoundsException if there is no such phase: " + phase + " of 10",
                () -> dueThrows("thaw", INDEX, () -> tenPhases().thaw(phase)));
        }
        test("6: throws IllegalStateException if it is not frozen", () -> {
            ChartroomSpc x = desk(2);
            dueThrows("no subgroup", STATE, () -> x.thaw(0));
            put(x, 0, 2);
            dueThrows("1 point", STATE, () -> x.thaw(0));
            put(x, 4, 8);
            dueThrows("2 points", STATE, () -> x.thaw(0));
            x.freeze(0);
            x.thaw(0);
            dueThrows("thawed", STATE, () -> x.thaw(0));
            due("center", x.center(0), 3500);
        });
    }

    private static void promise7() {
        test("7: reason: 1 to 9, or 0 to include it; returns the reason before", () -> {
            ChartroomSpc x = desk(2, 0, 2, 4, 8);
            for (int reason = 1; reason <= 9; reason++) {
                due("exclude for " + reason, x.exclude(0, reason), 0);
                due("points", x.points(0), 1);
                due("include", x.exclude(0, 0), reason);
                due("points", x.points(0), 2);
            }
        });
        test("7: returns the reason before: excluded again with another reason", () -> {
            ChartroomSpc x = desk(2, 0, 2, 4, 8);
            due("9", x.exclude(0, 9), 0);
            due("1 behind 9", x.exclude(0, 1), 9);
            due("1 behind 1", x.exclude(0, 1), 1);
            due("5 behind 1", x.exclude(0, 5), 1);
            due("points", x.points(0), 1);
            due("center", x.center(0), 6000);
            due("0 behind 5", x.exclude(0, 0), 5);
            due("points", x.points(0), 2);
        });
        test("7: returns the reason before; 0 if it was included", () -> {
            ChartroomSpc x = desk(2, 0, 2, 4, 8);
            due("include what is included", x.exclude(1, 0), 0);
            due("points", x.points(0), 2);
            due("center", x.center(0), 3500);
            due("once more", x.exclude(1, 0), 0);
        });
        test("7: subgroup: each has its own reason, the first and the last of 60 too", () -> {
            ChartroomSpc x = desk(2);
            putZeros(x, 120);
            due("exclude(59, 9)", x.exclude(59, 9), 0);
            due("exclude(0, 1)", x.exclude(0, 1), 0);
            due("points", x.points(0), 58);
            due("reason of 59", x.exclude(59, 0), 9);
            due("reason of 0", x.exclude(0, 0), 1);
            due("reason of 1", x.exclude(1, 0), 0);
            dueThrows("exclude(60, 0)", INDEX, () -> x.exclude(60, 0));
        });
        for (int subgroup : new int[] {2, 3, -1, Integer.MIN_VALUE, Integer.MAX_VALUE}) {
            test("7: throws IndexOutOfBoundsException if there is no such subgroup: " + subgroup, () -> {
                ChartroomSpc x = desk(2, 0, 2, 4, 8, 1);
                dueThrows("exclude", INDEX, () -> x.exclude(subgroup, 1));
                dueThrows("include", INDEX, () -> x.exclude(subgroup, 0));
                dueThrows("exclude for 10", INDEX, () -> x.exclude(subgroup, 10));
                dueThrows("exclude for -1", INDEX, () -> x.exclude(subgroup, -1));
                put(x, 1);
                due("points", x.points(0), 3);
            });
        }
        for (int reason : new int[] {-1, 10, Integer.MIN_VALUE, Integer.MAX_VALUE}) {
            test("7: throws IllegalArgumentException if reason is out of range: " + reason, () -> {
                ChartroomSpc x = desk(2, 0, 2, 4, 8);
                dueThrows("of one that is included", ARGUMENT, () -> x.exclude(0, reason));
                due("points", x.points(0), 2);
                due("reason", x.exclude(0, 4), 0);
                dueThrows("of one that is excluded", ARGUMENT, () -> x.exclude(0, reason));
                due("points", x.points(0), 1);
                due("reason", x.exclude(0, 4), 4);
            });
        }
    }

    private static void promise7Points() {
        test("7: excludes a subgroup: the limits are those of the other points", () -> {
            ChartroomSpc x = desk(2, 0, 2, 100, 140, 4, 8);
            x.exclude(1, 1);
            due("points", x.points(0), 2);
            due("center", x.center(0), 3500);
            due("width", x.width(0), 5640);
            due("rangeLimit", x.rangeLimit(0), 9801);
            due("capability", x.capability(0, 0, 10, false), floorOf(10000000, 6 * 2659));
            x.exclude(1, 0);
            due("included again: center", x.center(0), 42333);
            due("included again: width", x.width(0), 28826);
        });
        test("7: excludes all the points: the phase has no limits, and one of them brings them back", () -> {
            ChartroomSpc x = desk(2, 0, 2, 4, 8);
            x.exclude(0, 1);
            x.exclude(1, 2);
            dueThrows("center", STATE, () -> x.center(0));
            x.exclude(0, 0);
            due("center", x.center(0), 1000);
            due("width", x.width(0), 3760);
        });
        test("7: a subgroup that is excluded keeps its number, mean, range and phase", () -> {
            ChartroomSpc x = desk(2, 0, 2, 4, 8);
            x.exclude(0, 1);
            due("subgroups", x.subgroups(), 2);
            due("mean(0)", x.mean(0), 1000);
            due("range(0)", x.range(0), 2);
            due("phaseOf(0)", x.phaseOf(0), 0);
            due("mean(1)", x.mean(1), 6000);
        });
        test("7: excludes one of an earlier phase: the other phases are as they were", () -> {
            ChartroomSpc x = desk(2, 0, 2, 4, 8);
            x.newPhase();
            put(x, 20, 20, 30, 30);
            x.exclude(0, 1);
            due("points(0)", x.points(0), 1);
            due("points(1)", x.points(1), 2);
            due("center(0)", x.center(0), 6000);
            due("center(1)", x.center(1), 25000);
            x.exclude(3, 1);
            due("center(0)", x.center(0), 6000);
            due("center(1)", x.center(1), 20000);
        });
    }
}
