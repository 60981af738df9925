/** Promises 23 to 29 and 43 and "Likeness" and "Games" of the terms, at their limits. */
public final class LikenessEdgesTest {
    private static final char[] KINDS = {'s', 'w', 'b', 't'};

    interface PairCall {
        Object of(ObservantYard x, int system, int other);
    }

    interface KindCall {
        Object of(ObservantYard x, int system, char kind);
    }

    private static final PairCall[] OF_PAIR = {
        (x, system, other) -> x.isAlike(system, other, 's'), (x, system, other) -> x.isAlike(system, other, 'w'),
        (x, system, other) -> x.isAlike(system, other, 'b'), (x, system, other) -> x.isAlike(system, other, 't'),
        ObservantYard::simulates, ObservantYard::roundsApart, ObservantYard::firstStep,
    };

    // ---- what is refused

    /** "For either" and "of either": the systems on both sides. */
    private static void pairs() {
        for (PairCall call : OF_PAIR) {
            for (int wrong : Yards.NO_SYSTEM) {
                for (int system : new int[] {Yards.SMALL, Yards.BIG, Yards.TOO_BIG, wrong}) {
                    Yards.refused(Yards.FULL, Yards.NO_INDEX, x -> call.of(x, wrong, system));
                    Yards.refused(Yards.FULL, Yards.NO_INDEX, x -> call.of(x, system, wrong));
                }
            }
            Yards.refused(Yards.NEARLY_FULL, Yards.NO_INDEX, x -> call.of(x, 5, Yards.BIG));
            Yards.refused(Yards.NEARLY_FULL, Yards.NO_INDEX, x -> call.of(x, Yards.BIG, 5));
            for (int system = 0; system < 6; system++) {
                int there = system;
                Yards.refused(Yards.FULL, Yards.TOO_MANY, x -> call.of(x, Yards.TOO_BIG, there));
                Yards.refused(Yards.FULL, Yards.TOO_MANY, x -> call.of(x, there, Yards.TOO_BIG));
            }
        }
    }

    private static char[] besideKinds(String kinds) {
        StringBuilder wrongs = new StringBuilder();
        for (char kind : kinds.toCharArray()) {
            wrongs.append((char) (kind + 256)).append((char) (kind + 128)).append((char) (kind - 32));
            for (int beside = -1; beside <= 1; beside += 2) {
                if (kinds.indexOf(kind + beside) < 0) {
                    wrongs.append((char) (kind + beside));
                }
            }
        }
        return wrongs.append("deoirxn0\0\uffff").toString().toCharArray();
    }

    private static void kinds(String kinds, KindCall call) {
        for (char kind : kinds.toCharArray()) {
            call.of(Yards.FULL.make(), Yards.BIG, kind);
            Yards.refused(Yards.FULL, Yards.TOO_MANY, x -> call.of(x, Yards.TOO_BIG, kind));
            Yards.refused(Yards.FULL, Yards.NO_INDEX, x -> call.of(x, 6, kind));
            Yards.refused(Yards.FULL, Yards.NO_INDEX, x -> call.of(x, -1, kind));
        }
        for (char wrong : besideKinds(kinds)) {
            Yards.refused(Yards.FULL, Yards.BAD_ARGUMENT, x -> call.of(x, Yards.BIG, wrong));
            Yards.refused(Yards.FULL, Yards.BAD_ARGUMENT, x -> call.of(x, Yards.TOO_BIG, wrong));
            Yards.refused(Yards.FULL, Yards.NO_INDEX, x -> call.of(x, 6, wrong));
            Yards.refused(Yards.FULL, Yards.NO_INDEX, x -> call.of(x, Yards.LOW, wrong));
        }
    }

    private static void kindsOfLikeness() {
        kinds("swbt", (x, system, kind) -> x.isAlike(system, Yards.SMALL, kind));
        kinds("swbt", (x, system, kind) -> x.isAlike(Yards.SMALL, system, kind));
        kinds("swbt", (x, system, kind) -> x.areAlike(system, 0, 3, kind));
        kinds("swb", ObservantYard::countClasses);
        Yards.refused(Yards.FULL, Yards.BAD_ARGUMENT, x -> x.countClasses(Yards.BIG, 't'));
        Yards.refused(Yards.FULL, Yards.BAD_ARGUMENT, x -> x.countClasses(Yards.TOO_BIG, 't'));
        for (char kind : new char[] {'s', 'x'}) {
            Yards.refused(Yards.FULL, Yards.NO_INDEX, x -> x.isAlike(Yards.TOO_BIG, 6, kind));
            Yards.refused(Yards.FULL, Yards.NO_INDEX, x -> x.isAlike(6, Yards.TOO_BIG, kind));
        }
    }

    /** A state of either side; of too big a system each from 0 on is one. */
    private static void states() {
        for (char kind : new char[] {'s', 'w', 'b', 't', 'x'}) {
            for (int wrong : new int[] {-1, 150, Yards.LOW, Yards.HIGH}) {
                Yards.refused(Yards.FULL, Yards.NO_INDEX, x -> x.areAlike(Yards.BIG, wrong, 0, kind));
                Yards.refused(Yards.FULL, Yards.NO_INDEX, x -> x.areAlike(Yards.BIG, 149, wrong, kind));
                Yards.refused(Yards.FULL, Yards.NO_INDEX, x -> x.areAlike(Yards.BIG, wrong, wrong, kind));
            }
            Yards.refused(Yards.FULL, Yards.NO_INDEX, x -> x.areAlike(Yards.SMALL, 5, 4, kind));
            Yards.refused(Yards.FULL, Yards.NO_INDEX, x -> x.areAlike(Yards.SMALL, 4, 5, kind));
            for (int below : new int[] {-1, Yards.LOW}) {
                Yards.refused(Yards.FULL, Yards.NO_INDEX, x -> x.areAlike(Yards.TOO_BIG, below, 0, kind));
                Yards.refused(Yards.FULL, Yards.NO_INDEX, x -> x.areAlike(Yards.TOO_BIG, 0, below, kind));
            }
            Class<?> due = kind == 'x' ? Yards.BAD_ARGUMENT : Yards.TOO_MANY;
            for (int state : new int[] {0, 149, 150, 151, Yards.HIGH}) {
                Yards.refused(Yards.FULL, due, x -> x.areAlike(Yards.TOO_BIG, state, 0, kind));
                Yards.refused(Yards.FULL, due, x -> x.areAlike(Yards.TOO_BIG, 0, state, kind));
            }
        }
        for (char kind : KINDS) {
            Yards.taken(Yards.FULL, true, x -> x.areAlike(Yards.BIG, 149, 149, kind));
            Yards.taken(Yards.FULL, false, x -> x.areAlike(Yards.BIG, 0, 149, kind));
            Yards.taken(Yards.FULL, true, x -> x.areAlike(Yards.SMALL, 1, 4, kind));
            Yards.taken(Yards.FULL, true, x -> x.areAlike(Yards.STOPPED, 0, 0, kind));
        }
    }

    /** 1 to 5. */
    private static void lengths() {
        for (int wrong : new int[] {0, 6, -1, Yards.LOW, Yards.HIGH}) {
            Yards.refused(Yards.FULL, Yards.BAD_ARGUMENT, x -> x.countTraces(Yards.BIG, wrong));
            Yards.refused(Yards.FULL, Yards.BAD_ARGUMENT, x -> x.countTraces(Yards.TOO_BIG, wrong));
            Yards.refused(Yards.FULL, Yards.NO_INDEX, x -> x.countTraces(6, wrong));
            Yards.refused(Yards.FULL, Yards.NO_INDEX, x -> x.countTraces(-1, wrong));
        }
        for (int length = 1; length <= 5; length++) {
            int asked = length;
            Yards.refused(Yards.FULL, Yards.TOO_MANY, x -> x.countTraces(Yards.TOO_BIG, asked));
            for (int wrong : Yards.NO_SYSTEM) {
                Yards.refused(Yards.FULL, Yards.NO_INDEX, x -> x.countTraces(wrong, asked));
            }
            Yards.taken(Yards.FULL, 0, x -> x.countTraces(Yards.STOPPED, asked));
        }
        int[] rows = {3, 9, 0, 0, 0};
        for (int length = 1; length <= 5; length++) {
            int asked = length;
            Yards.taken(Yards.FULL, rows[length - 1], x -> x.countTraces(Yards.BIG, asked));
            Yards.taken(Yards.FULL, length == 1 ? 4 : 0, x -> x.countTraces(Yards.SMALL, asked));
        }
    }

    /** "If they cannot be": behind too many states. */
    private static void noFirstStep() {
        Yards.refused(Yards.FULL, Yards.NO_ELEMENT, x -> x.firstStep(Yards.BIG, Yards.BIG));
        Yards.refused(Yards.FULL, Yards.NO_ELEMENT, x -> x.firstStep(Yards.STOPPED, Yards.STOPPED));
        Yards.refused(Yards.FULL, Yards.TOO_MANY, x -> x.firstStep(Yards.TOO_BIG, Yards.TOO_BIG));
        Yards.refused(Yards.FULL, Yards.NO_INDEX, x -> x.firstStep(6, 6));
        Yards.taken(Yards.FULL, -1, x -> x.roundsApart(Yards.BIG, Yards.BIG));
        Yards.taken(Yards.FULL, -1, x -> x.roundsApart(Yards.STOPPED, Yards.STOPPED));
        Yards.taken(Yards.FULL, 1, x -> x.roundsApart(Yards.STOPPED, Yards.BIG));
        Yards.taken(Yards.FULL, 1000, x -> x.firstStep(Yards.STOPPED, Yards.BIG));
        Yards.taken(Yards.FULL, 0, x -> x.firstStep(Yards.BIG, Yards.STOPPED));
        Yards.taken(Yards.FULL, 1200, x -> x.firstStep(Yards.STOPPED, Yards.SMALL));
        Yards.taken(Yards.FULL, 200, x -> x.firstStep(Yards.SMALL, Yards.STOPPED));
    }

    // ---- what is answered of 150 states

    /**
     * Strongly, parts count by how many silent steps they have ahead, whichever part it is: of the 13 times 8 pairs
     * of these 28 are the same as others turned round. Weakly and branching just what still can be received counts.
     */
    private static void ofBig() {
        ObservantYard x = Yards.FULL.make();
        Check.is(x.countClasses(Yards.BIG, 's'), 13 * 8 - 28);
        Check.is(x.countClasses(Yards.BIG, 'w'), 3);
        Check.is(x.countClasses(Yards.BIG, 'b'), 3);
        for (char kind : KINDS) {
            Check.is(x.isAlike(Yards.BIG, Yards.BIG, kind), true);
            Check.is(x.isAlike(Yards.BIG, Yards.SHORTER, kind), kind != 's');
            Check.is(x.isAlike(Yards.SHORTER, Yards.BIG, kind), kind != 's');
            Check.is(x.isAlike(Yards.BIG, Yards.STOPPED, kind), false);
        }
        Check.is(x.simulates(Yards.BIG, Yards.BIG), true);
        Check.is(x.simulates(Yards.BIG, Yards.SHORTER), false);
        Check.is(x.simulates(Yards.SHORTER, Yards.BIG), false);
        Check.is(x.simulates(Yards.BIG, Yards.STOPPED), true);
        Check.is(x.simulates(Yards.STOPPED, Yards.BIG), false);
        Check.is(x.simulates(Yards.STOPPED, Yards.STOPPED), true);
        Check.is(x.firstStep(Yards.BIG, Yards.SHORTER), 0);
        Check.is(x.firstStep(Yards.SHORTER, Yards.BIG), 0);
    }

    /**
     * Three parts count silently: the first one 5 steps a lap, the second one 4 laps, the third one 6 times. The
     * order of steps makes no difference, so that each row of them is equally long.
     */
    private static ObservantYard counting() {
        ObservantYard x = Yards.withAgents(16);
        for (int agent = 0; agent < 4; agent++) {
            x.addBranch(agent, 't', 0, 0, agent + 1);
            x.addBranch(agent + 5, 'i', 3, 0, agent + 6);
        }
        x.addBranch(4, 'o', 3, 0, 0);
        x.addBranch(9, 'o', 3, 1, 5);
        for (int agent = 10; agent < 15; agent++) {
            x.addBranch(agent, 'i', 3, 1, agent + 1);
        }
        for (int system = 0; system < 2; system++) {
            x.addSystem(0, 0);
            x.addPart(system, 5, 0);
            x.addPart(system, 10, 0);
            for (int name = 0; name < 4; name++) {
                x.hide(system, name, true);
            }
        }
        return x;
    }

    /** Within how many rounds: one more than there are steps in the shorter one. */
    private static void manyRounds() {
        ObservantYard x = counting();
        Check.is(x.countStates(0), 150);
        Check.is(x.stepsToStuck(0), 24 * 5 + 5 + 4);
        Check.is(x.roundsApart(0, 1), -1);
        Check.noElement(() -> x.firstStep(0, 1));
        int steps = 129;
        for (int agent = 1; agent < 5; agent++) {
            x.setPart(1, 0, agent, 0);
            Check.is(x.stepsToStuck(1), steps - agent);
            countsApart(x, steps - agent + 1);
        }
        x.setPart(1, 2, 15, 0);
        Check.is(x.stepsToStuck(1), 3 * 5 + 1 + 4);
        countsApart(x, 21);
        x.lead(4, 0, 4);
        x.addBranch(4, 't', 0, 0, 4);
        Check.is(x.stepsToStuck(0), -1);
        Check.is(x.roundsApart(0, 1), -1);
        Check.is(x.isAlike(0, 1, 's'), true);
    }

    private static void countsApart(ObservantYard x, int rounds) {
        Check.is(x.roundsApart(0, 1), rounds);
        Check.is(x.roundsApart(1, 0), rounds);
        Check.is(x.firstStep(0, 1), 0);
        Check.is(x.firstStep(1, 0), 0);
        Check.is(x.isAlike(0, 1, 's'), false);
        Check.is(x.simulates(0, 1), true);
        Check.is(x.simulates(1, 0), false);
        for (char kind : "wbt".toCharArray()) {
            Check.is(x.isAlike(0, 1, kind), true);
        }
    }

    /** A silent step for ever is one round more than the last of those that end. */
    private static void againstForEver() {
        ObservantYard x = counting();
        x.addSystem(4, 0);
        x.dropBranch(4, 0);
        Check.is(x.countStates(2), 1);
        Check.is(x.stepsToStuck(0), 4);
        x.addBranch(4, 'o', 3, 0, 0);
        x.addBranch(9, 't', 0, 0, 9);
        Check.is(x.addSystem(9, 0), 3);
        x.hide(3, 3, true);
        Check.is(x.canChatter(3), true);
        Check.is(x.canChatter(0), true);
        x.setPart(1, 1, 15, 0);
        Check.is(x.stepsToStuck(1), 4);
        Check.is(x.roundsApart(3, 1), 5);
        Check.is(x.roundsApart(1, 3), 5);
        Check.is(x.firstStep(1, 3), 0);
        Check.is(x.firstStep(3, 1), 0);
        Check.is(x.simulates(3, 1), true);
        Check.is(x.simulates(1, 3), false);
    }

    // ---- promise 43

    /** "Of each two systems that have at most 24 states together": whatever else there is. */
    private static void isSound() {
        Yards.taken(Yards.NEW, true, ObservantYard::isSound);
        Yards.taken(Yards.NEARLY_FULL, true, ObservantYard::isSound);
        Yards.taken(Yards.FULL, true, ObservantYard::isSound);
        ObservantYard x = counting();
        Check.is(x.isSound(), true);
        for (int system = 2; system < 6; system++) {
            Check.is(x.copy(system - 1), system);
            x.setPart(system, 1, 15, 0);
            x.setPart(system, 2, 15, 0);
            Check.is(x.isSound(), true);
        }
        Check.is(x.countStates(5), 5);
        Check.is(x.addStep('w', 100, 0), 1);
        Check.is(x.isSound(), true);
        x.addBranch(15, 'o', 0, 0, 14);
        x.hide(4, 0, false);
        Check.is(x.isSound(), true);
    }

    public static void main(String[] args) {
        pairs();
        kindsOfLikeness();
        states();
        lengths();
        noFirstStep();
        ofBig();
        manyRounds();
        againstForEver();
        isSound();
        Check.end();
    }
}
