/** Promises 13 to 22 and 40 to 42 and "Graphs" and "Edits" of the terms, at their limits. */
public final class GraphEdgesTest {
    interface SystemCall {
        Object of(ObservantYard x, int system);
    }

    interface StateCall {
        Object of(ObservantYard x, int system, int state);
    }

    interface NumberCall {
        Object of(ObservantYard x, int system, int state, int number);
    }

    private static final SystemCall[] OF_SYSTEM = {
        ObservantYard::countStates, ObservantYard::countStuck, ObservantYard::canChatter, ObservantYard::stepsToStuck,
        ObservantYard::silentShare, ObservantYard::meanSteps, ObservantYard::checksum,
        (x, system) -> x.canShow(system, 0), (x, system) -> x.canShow(system, 233),
    };

    private static final NumberCall[] OF_STEP = {ObservantYard::getLabel, ObservantYard::getTarget};

    private static final NumberCall[] OF_PART = {ObservantYard::getAgent, ObservantYard::getKept};

    private static final StateCall[] OF_STATE = {
        ObservantYard::countSteps,
        (x, system, state) -> x.getLabel(system, state, 0),
        (x, system, state) -> x.getTarget(system, state, 0),
        (x, system, state) -> x.getAgent(system, state, 0),
        (x, system, state) -> x.getKept(system, state, 0),
    };

    private static final int[] BESIDE_BIG = {-1, 150, 151, Yards.LOW, Yards.HIGH};

    // ---- what each call refuses

    private static void systems() {
        for (SystemCall call : OF_SYSTEM) {
            for (int wrong : Yards.NO_SYSTEM) {
                Yards.refused(Yards.FULL, Yards.NO_INDEX, x -> call.of(x, wrong));
            }
            Yards.refused(Yards.NEARLY_FULL, Yards.NO_INDEX, x -> call.of(x, 5));
            Yards.refused(Yards.FULL, Yards.TOO_MANY, x -> call.of(x, Yards.TOO_BIG));
        }
        Yards.taken(Yards.FULL, 150, x -> x.countStates(Yards.BIG));
        Yards.taken(Yards.FULL, 12, x -> x.countStates(5));
        Yards.taken(Yards.FULL, 5, x -> x.countStates(Yards.SMALL));
    }

    /** "Of a system with more each state from 0 on counts as one of its states." */
    private static void states() {
        for (StateCall call : OF_STATE) {
            for (int wrong : Yards.NO_SYSTEM) {
                Yards.refused(Yards.FULL, Yards.NO_INDEX, x -> call.of(x, wrong, 0));
                Yards.refused(Yards.FULL, Yards.NO_INDEX, x -> call.of(x, wrong, -1));
            }
            for (int wrong : BESIDE_BIG) {
                Yards.refused(Yards.FULL, Yards.NO_INDEX, x -> call.of(x, Yards.BIG, wrong));
            }
            Yards.refused(Yards.FULL, Yards.NO_INDEX, x -> call.of(x, Yards.SMALL, 5));
            Yards.refused(Yards.FULL, Yards.NO_INDEX, x -> call.of(x, Yards.STOPPED, 1));
            for (int below : new int[] {-1, -2, Yards.LOW}) {
                Yards.refused(Yards.FULL, Yards.NO_INDEX, x -> call.of(x, Yards.TOO_BIG, below));
            }
            for (int state : new int[] {0, 1, 149, 150, 151, Yards.HIGH}) {
                Yards.refused(Yards.FULL, Yards.TOO_MANY, x -> call.of(x, Yards.TOO_BIG, state));
            }
        }
        Yards.taken(Yards.FULL, 0, x -> x.countSteps(Yards.BIG, 149));
        Yards.taken(Yards.FULL, 0, x -> x.countSteps(Yards.SMALL, 4));
        Yards.taken(Yards.FULL, 0, x -> x.countSteps(Yards.STOPPED, 0));
        Yards.taken(Yards.FULL, 12, x -> x.getAgent(Yards.BIG, 149, 0));
        Yards.taken(Yards.FULL, 2, x -> x.getKept(Yards.BIG, 149, 1));
        Yards.taken(Yards.FULL, 3, x -> x.getKept(Yards.SMALL, 4, 0));
    }

    private static void steps() {
        for (NumberCall call : OF_STEP) {
            for (int wrong : new int[] {-1, 2, Yards.LOW, Yards.HIGH}) {
                Yards.refused(Yards.FULL, Yards.NO_ELEMENT, x -> call.of(x, Yards.BIG, 0, wrong));
                Yards.refused(Yards.FULL, Yards.TOO_MANY, x -> call.of(x, Yards.TOO_BIG, 0, wrong));
                Yards.refused(Yards.FULL, Yards.TOO_MANY, x -> call.of(x, Yards.TOO_BIG, 151, wrong));
                Yards.refused(Yards.FULL, Yards.NO_INDEX, x -> call.of(x, Yards.TOO_BIG, -1, wrong));
                Yards.refused(Yards.FULL, Yards.NO_INDEX, x -> call.of(x, Yards.BIG, 150, wrong));
                Yards.refused(Yards.FULL, Yards.NO_INDEX, x -> call.of(x, 6, 0, wrong));
            }
            for (int wrong : new int[] {-1, 0, 1}) {
                Yards.refused(Yards.FULL, Yards.NO_ELEMENT, x -> call.of(x, Yards.BIG, 149, wrong));
                Yards.refused(Yards.FULL, Yards.NO_ELEMENT, x -> call.of(x, Yards.STOPPED, 0, wrong));
            }
            Yards.refused(Yards.FULL, Yards.NO_ELEMENT, x -> call.of(x, Yards.SMALL, 0, 4));
            Yards.refused(Yards.FULL, Yards.NO_ELEMENT, x -> call.of(x, Yards.SMALL, 4, 0));
        }
        Yards.taken(Yards.FULL, 200, x -> x.getLabel(Yards.SMALL, 0, 0));
        Yards.taken(Yards.FULL, 203, x -> x.getLabel(Yards.SMALL, 0, 3));
        Yards.taken(Yards.FULL, 4, x -> x.getTarget(Yards.SMALL, 0, 3));
        Yards.taken(Yards.FULL, 0, x -> x.getLabel(Yards.BIG, 0, 1));
        Yards.taken(Yards.FULL, 2, x -> x.getTarget(Yards.BIG, 0, 1));
    }

    /** No such part is told ahead of too many states. */
    private static void parts() {
        for (NumberCall call : OF_PART) {
            for (int wrong : new int[] {-1, 3, Yards.LOW, Yards.HIGH}) {
                for (int system : new int[] {Yards.SMALL, Yards.BIG, Yards.TOO_BIG}) {
                    Yards.refused(Yards.FULL, Yards.NO_INDEX, x -> call.of(x, system, 0, wrong));
                }
                Yards.refused(Yards.FULL, Yards.NO_INDEX, x -> call.of(x, Yards.TOO_BIG, -1, wrong));
                Yards.refused(Yards.FULL, Yards.NO_INDEX, x -> call.of(x, Yards.BIG, 150, wrong));
            }
            Yards.refused(Yards.FULL, Yards.NO_INDEX, x -> call.of(x, Yards.SMALL, 0, 1));
            Yards.refused(Yards.FULL, Yards.NO_INDEX, x -> call.of(x, Yards.SHORTER, 0, 2));
            Yards.refused(Yards.NEARLY_FULL, Yards.NO_INDEX, x -> call.of(x, Yards.TOO_BIG, 0, 2));
            Yards.refused(Yards.FULL, Yards.TOO_MANY, x -> call.of(x, Yards.TOO_BIG, 0, 2));
            Yards.refused(Yards.NEARLY_FULL, Yards.TOO_MANY, x -> call.of(x, Yards.TOO_BIG, 0, 1));
        }
        Yards.taken(Yards.FULL, 13, x -> x.getAgent(Yards.BIG, 149, 2));
        Yards.taken(Yards.FULL, 1, x -> x.getKept(Yards.BIG, 149, 2));
        Yards.taken(Yards.FULL, 0, x -> x.getAgent(Yards.BIG, 0, 0));
        Yards.taken(Yards.FULL, 3, x -> x.getKept(Yards.BIG, 0, 0));
    }

    /** 0, 100 to 133 and 200 to 233, each with a channel and a name of 0 to 3. */
    private static void labels() {
        int labels = 0;
        for (int from = -50; from < 450; from += 50) {
            ObservantYard x = Yards.FULL.make();
            for (int label = from; label < from + 50; label++) {
                int asked = label;
                boolean isLabel = label == 0
                        || label / 100 >= 1 && label / 100 <= 2 && label % 100 / 10 <= 3 && label % 10 <= 3;
                labels += isLabel ? 1 : 0;
                if (isLabel) {
                    Check.is(x.canShow(Yards.SMALL, label), label >= 200 && label <= 203);
                    Check.tooMany(() -> x.canShow(Yards.TOO_BIG, asked));
                } else {
                    Check.badArgument(() -> x.canShow(Yards.SMALL, asked));
                    Check.badArgument(() -> x.canShow(Yards.TOO_BIG, asked));
                }
                Check.noIndex(() -> x.canShow(6, asked));
            }
        }
        Check.is(labels, 33);
        for (int wrong : new int[] {-1, 1, 99, 104, 134, 140, 199, 204, 234, 240, 300, 1000, 1100, Yards.LOW, Yards.HIGH}) {
            Yards.refused(Yards.FULL, Yards.BAD_ARGUMENT, x -> x.canShow(Yards.BIG, wrong));
            Yards.refused(Yards.FULL, Yards.BAD_ARGUMENT, x -> x.canShow(Yards.TOO_BIG, wrong));
            Yards.refused(Yards.FULL, Yards.NO_INDEX, x -> x.canShow(-1, wrong));
        }
    }

    // ---- what is answered of 150 states, and of one

    /** Part 0 has 11 silent steps and 3 that show, part 1 has 6 and 3; each beside all that the other one can be. */
    private static void ofBig() {
        ObservantYard x = Yards.FULL.make();
        Check.is(x.countStates(Yards.BIG), 150);
        Check.is(x.countSteps(Yards.BIG, 0), 2);
        Check.is(x.countStuck(Yards.BIG), 3 * 3);
        Check.is(x.canChatter(Yards.BIG), false);
        Check.is(x.stepsToStuck(Yards.BIG), 11 + 1 + 6 + 1);
        Check.is(x.silentShare(Yards.BIG), 200f / 275f);
        Check.is(x.meanSteps(Yards.BIG), 275.0 / 150.0);
        for (int label : new int[] {0, 200, 201, 202}) {
            Check.is(x.canShow(Yards.BIG, label), true);
        }
        for (int label : new int[] {100, 130, 203, 230, 233}) {
            Check.is(x.canShow(Yards.BIG, label), false);
        }
        Check.is(x.checksum(Yards.BIG), sum(x, Yards.BIG));
    }

    /** The sum over a graph that the document tells, by the calls for states and steps: at most 512 in all. */
    private static long sum(ObservantYard x, int system) {
        ObservantYard y = x;
        long sum = 7;
        int states = y.countStates(system);
        for (int state = 0; state < states; state++) {
            y = Yards.FULL.make();
            int steps = y.countSteps(system, state);
            sum = 31 * sum + steps;
            for (int step = 0; step < steps; step++) {
                sum = 31 * sum + y.getLabel(system, state, step);
                sum = 31 * sum + y.getTarget(system, state, step);
            }
        }
        return sum;
    }

    private static void ofStopped() {
        ObservantYard x = Yards.FULL.make();
        Check.is(x.countStates(Yards.STOPPED), 1);
        Check.is(x.countStuck(Yards.STOPPED), 1);
        Check.is(x.canChatter(Yards.STOPPED), false);
        Check.is(x.canShow(Yards.STOPPED, 0), false);
        Check.is(x.stepsToStuck(Yards.STOPPED), 0);
        Check.is(x.meanSteps(Yards.STOPPED), 0.0);
        Check.is(x.checksum(Yards.STOPPED), 31L * 7);
    }

    /** "Or no steps": a share of none is refused, one of a single step is not. */
    private static void silentShare() {
        Yards.refused(Yards.FULL, Yards.TOO_MANY, x -> x.silentShare(Yards.STOPPED));
        ObservantYard x = Yards.withAgents(1);
        x.addSystem(0, 0);
        Check.tooMany(() -> x.silentShare(0));
        x.addBranch(0, 'o', 0, 1, 0);
        Check.is(x.silentShare(0), 0f);
        x.addBranch(0, 'o', 0, 1, 0);
        Check.is(x.silentShare(0), 0f);
        x.hide(0, 1, true);
        Check.tooMany(() -> x.silentShare(0));
        x.addBranch(0, 't', 0, 0, 0);
        Check.is(x.silentShare(0), 1f);
        x.hide(0, 1, false);
        Check.is(x.silentShare(0), 0.5f);
        x.addBranch(0, 'i', 0, 4, 0);
        Check.is(x.countStates(0), 4);
        Check.is(x.countSteps(0, 0), 6);
        Check.is(x.silentShare(0), 4f / 24f);
        Check.is(x.meanSteps(0), 6.0);
    }

    // ---- the 151st state

    /** Two chains of 15 and 10 states; if their ends meet, the one state more is come to from the last one alone. */
    private static void oneMoreAtTheEnd() {
        ObservantYard x = Yards.withAgents(16);
        for (int agent = 0; agent < 14; agent++) {
            x.addBranch(agent, 't', 0, 0, agent + 1);
        }
        x.addBranch(14, 'o', 3, 0, 15);
        x.addSystem(0, 0);
        x.addPart(0, 5, 0);
        x.hide(0, 3, true);
        Check.is(x.countStates(0), 150);
        Check.is(x.countSteps(0, 149), 0);
        Check.is(x.stepsToStuck(0), 23);
        x.addBranch(14, 'i', 3, 0, 15);
        Check.tooMany(() -> x.countStates(0));
        Check.tooMany(() -> x.countSteps(0, 150));
        Check.tooMany(() -> x.stepsToStuck(0));
        x.lead(14, 0, 14);
        x.lead(14, 1, 14);
        Check.is(x.countStates(0), 150);
        Check.is(x.countSteps(0, 149), 1);
        Check.is(x.getTarget(0, 149, 0), 149);
        Check.is(x.canChatter(0), true);
        Check.is(x.stepsToStuck(0), -1);
        x.lead(14, 0, 5);
        x.lead(14, 1, 5);
        Check.is(x.countStates(0), 150);
        Check.is(x.getAgent(0, x.getTarget(0, 149, 0), 0), 5);
        Check.is(x.getAgent(0, x.getTarget(0, 149, 0), 1), 5);
        x.lead(14, 1, 4);
        Check.tooMany(() -> x.countStates(0));
        x.setPart(0, 0, 6, 0);
        x.setPart(0, 1, 6, 0);
        x.lead(14, 0, 15);
        x.lead(14, 1, 15);
        Check.is(x.countStates(0), 9 * 9 + 1);
    }

    /** As many states as there can be are refused as 151 are, and the next edit that makes room is seen. */
    private static void farTooMany() {
        ObservantYard x = Yards.withAgents(16);
        for (int agent = 0; agent < 16; agent++) {
            for (int branch = 0; branch < 4; branch++) {
                x.addBranch(agent, 'i', branch, 4, (agent + branch + 1) % 16);
            }
            x.addBranch(agent, 't', 0, 0, (agent + 1) % 16);
            x.addBranch(agent, 'o', 4, 4, (agent + 7) % 16);
        }
        x.addSystem(0, 0);
        Check.is(x.countStates(0), 64);
        x.addPart(0, 5, 1);
        Check.tooMany(() -> x.countStates(0));
        x.addPart(0, 9, 2);
        Check.tooMany(() -> x.checksum(0));
        Check.tooMany(() -> x.countSteps(0, Yards.HIGH));
        for (int name = 0; name < 4; name++) {
            x.hide(0, name, true);
        }
        Check.tooMany(() -> x.countStates(0));
        Check.is(x.addSystem(3, 3), 1);
        Check.is(x.countStates(1), 64);
    }

    /** Six are sent, and six of each of two parts receive any: 72 steps, and 54 more where no name is hidden. */
    private static void manyStepsOfOneState() {
        ObservantYard x = Yards.withAgents(9);
        for (int branch = 0; branch < 6; branch++) {
            x.addBranch(0, 'o', 0, branch % 4, 2 + branch / 4);
            x.addBranch(1, 'i', 0, 4, 3 + branch);
        }
        x.addSystem(0, 0);
        x.addPart(0, 1, 0);
        x.addPart(0, 1, 0);
        Check.tooMany(() -> x.countSteps(0, 0));
        x.hide(0, 0, true);
        Check.is(x.countStates(0), 73);
        Check.is(x.countSteps(0, 0), 72);
        long sum = 7 * 31 + 72;
        for (int step = 0; step < 72; step++) {
            Check.is(x.getTarget(0, 0, step), step + 1);
            sum = 31 * (31 * sum) + step + 1;
        }
        for (int state = 1; state < 73; state++) {
            sum *= 31;
        }
        Check.is(x.checksum(0), sum);
        x.hide(0, 0, false);
        Check.tooMany(() -> x.checksum(0));
        x.setPart(0, 2, 8, 0);
        Check.is(x.countStates(0), 3 * 25);
        Check.is(x.countSteps(0, 0), 36 + 6 + 24);
    }

    /** One thing or another is taken away from TOO_BIG, and put back: what is asked then is of what is there. */
    private static void editsOfTooBig() {
        ObservantYard x = Yards.FULL.make();
        for (int turn = 0; turn < 3; turn++) {
            Check.tooMany(() -> x.countStates(Yards.TOO_BIG));
            Check.is(x.setPart(Yards.TOO_BIG, 1, 6, 3), 14);
            Check.is(x.countStates(Yards.TOO_BIG), 15 * 9);
            Check.is(x.setPart(Yards.TOO_BIG, 1, 14, 3), 6);
            Check.tooMany(() -> x.countStates(Yards.TOO_BIG));
            Check.is(x.lead(14, 1, 14), 13);
            Check.tooMany(() -> x.countStates(Yards.TOO_BIG));
            Check.is(x.lead(14, 1, 13), 14);
            Check.is(x.lead(0, 1, 1), 13);
            Check.tooMany(() -> x.countStates(Yards.TOO_BIG));
            Check.is(x.lead(0, 1, 13), 1);
            Check.is(x.hide(Yards.TOO_BIG, 2, true), false);
            Check.is(x.countStates(Yards.TOO_BIG), 14 * 9 + 1);
            Check.is(x.hide(Yards.TOO_BIG, 2, false), true);
            Check.tooMany(() -> x.silentShare(Yards.TOO_BIG));
            Check.is(x.countStates(Yards.BIG), 150);
        }
        Check.is(x.dropBranch(0, 1), 1);
        Check.is(x.countStates(Yards.TOO_BIG), 150);
        Check.is(x.addBranch(0, 'o', 3, 0, 13), 1);
        Check.tooMany(() -> x.countStates(Yards.TOO_BIG));
        Check.is(x.countStates(Yards.BIG), 150);
    }

    public static void main(String[] args) {
        systems();
        states();
        steps();
        parts();
        labels();
        ofBig();
        ofStopped();
        silentShare();
        oneMoreAtTheEnd();
        farTooMany();
        manyStepsOfOneState();
        editsOfTooBig();
        Check.end();
    }
}
