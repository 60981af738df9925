/** Promises 13 to 22 and 40 to 42: steps, graphs and figures of them. */
public final class GraphsTest {
    private static ObservantYard withAgents(int count) {
        ObservantYard x = new ObservantYard();
        for (int agent = 0; agent < count; agent++) {
            x.addAgent();
        }
        return x;
    }

    /**
     * Two parts on a chain at whose end one of the three names that are not hidden is received: 15 times 10
     * states. If they may meet, which they can do unseen and only at first, one more is come to.
     */
    private static ObservantYard broad(boolean mayMeet) {
        ObservantYard x = withAgents(14);
        for (int agent = 0; agent < 11; agent++) {
            x.addBranch(agent, 't', 0, 0, agent + 1);
        }
        x.addBranch(11, 'i', 0, 4, 12);
        x.addBranch(0, 'o', 3, 0, 13);
        x.addBranch(5, 'i', 3, mayMeet ? 0 : 1, 13);
        x.addSystem(0, 3);
        x.addPart(0, 5, 3);
        x.hide(0, 3, true);
        return x;
    }

    private static void countStates() {
        ObservantYard x = withAgents(2);
        x.addSystem(0, 0);
        Check.is(x.countStates(0), 1);
        x.addBranch(0, 'i', 0, 4, 0);
        Check.is(x.countStates(0), 4);
        x.addBranch(0, 't', 0, 0, 1);
        Check.is(x.countStates(0), 8);
        x.addPart(0, 1, 0);
        Check.is(x.countStates(0), 8);
        x.hide(0, 3, true);
        Check.is(x.countStates(0), 6);
        Check.noIndex(() -> x.countStates(1));
        Check.noIndex(() -> x.countStates(-1));
    }

    private static void upToAHundredAndFifty() {
        ObservantYard x = broad(false);
        Check.is(x.countStates(0), 150);
        Check.is(x.countSteps(0, 149), 0);
        Check.is(x.getAgent(0, 149, 1), 12);
        Check.is(x.getKept(0, 149, 1), 2);
        Check.noIndex(() -> x.countSteps(0, 150));
        Check.noIndex(() -> x.getKept(0, 150, 0));
        Check.noIndex(() -> x.getLabel(0, 150, 0));
        Check.is(x.isAlike(0, 0, 's'), true);
        x.dropBranch(5, 1);
        x.addBranch(5, 'i', 3, 0, 13);
        Check.tooMany(() -> x.countStates(0));
        Check.is(x.hide(0, 2, true), false);
        Check.is(x.countStates(0), 14 * 9 + 1);
        x.hide(0, 2, false);
        Check.tooMany(() -> x.countStates(0));
        x.lead(0, 1, 12);
        x.lead(5, 1, 12);
        Check.tooMany(() -> x.countStates(0));
        x.lead(0, 1, 1);
        x.lead(5, 1, 6);
        Check.is(x.countStates(0), 150);
    }

    private static void wrongAndTooMany() {
        ObservantYard x = broad(true);
        x.addSystem(13, 0);
        int[] states = {0, 149, 150, 1000, Integer.MAX_VALUE};
        for (int state : states) {
            Check.tooMany(() -> x.countSteps(0, state));
            Check.tooMany(() -> x.getLabel(0, state, 0));
            Check.tooMany(() -> x.getLabel(0, state, -1));
            Check.tooMany(() -> x.getTarget(0, state, 500));
            Check.tooMany(() -> x.getAgent(0, state, 1));
            Check.tooMany(() -> x.getKept(0, state, 0));
            Check.noIndex(() -> x.getAgent(0, state, 2));
            Check.noIndex(() -> x.getKept(0, state, -1));
            Check.tooMany(() -> x.areAlike(0, state, state, 's'));
        }
        for (int state : new int[] {-1, Integer.MIN_VALUE}) {
            Check.noIndex(() -> x.countSteps(0, state));
            Check.noIndex(() -> x.getLabel(0, state, 0));
            Check.noIndex(() -> x.getTarget(0, state, 0));
            Check.noIndex(() -> x.getAgent(0, state, 0));
            Check.noIndex(() -> x.getKept(0, state, 0));
        }
        Check.tooMany(() -> x.countStuck(0));
        Check.tooMany(() -> x.canChatter(0));
        Check.tooMany(() -> x.canShow(0, 0));
        Check.badArgument(() -> x.canShow(0, 1));
        Check.noIndex(() -> x.canShow(2, 1));
        Check.tooMany(() -> x.stepsToStuck(0));
        Check.tooMany(() -> x.silentShare(0));
        Check.tooMany(() -> x.meanSteps(0));
        Check.tooMany(() -> x.checksum(0));
        Check.is(x.countStates(1), 1);
    }

    private static void wrongSystems() {
        ObservantYard x = withAgents(1);
        x.addSystem(0, 0);
        for (int wrong : new int[] {-1, 1, Integer.MIN_VALUE, Integer.MAX_VALUE}) {
            Check.noIndex(() -> x.countStates(wrong));
            Check.noIndex(() -> x.countSteps(wrong, 0));
            Check.noIndex(() -> x.countSteps(0, wrong));
            Check.noIndex(() -> x.getLabel(wrong, 0, 0));
            Check.noIndex(() -> x.getLabel(0, wrong, 0));
            Check.noIndex(() -> x.getTarget(wrong, 0, 0));
            Check.noIndex(() -> x.getTarget(0, wrong, 0));
            Check.noIndex(() -> x.getAgent(wrong, 0, 0));
            Check.noIndex(() -> x.getAgent(0, wrong, 0));
            Check.noIndex(() -> x.getAgent(0, 0, wrong));
            Check.noIndex(() -> x.getKept(wrong, 0, 0));
            Check.noIndex(() -> x.getKept(0, wrong, 0));
            Check.noIndex(() -> x.getKept(0, 0, wrong));
            Check.noIndex(() -> x.countStuck(wrong));
            Check.noIndex(() -> x.canChatter(wrong));
            Check.noIndex(() -> x.canShow(wrong, 0));
            Check.noIndex(() -> x.stepsToStuck(wrong));
            Check.noIndex(() -> x.silentShare(wrong));
            Check.noIndex(() -> x.meanSteps(wrong));
            Check.noIndex(() -> x.checksum(wrong));
        }
    }

    private static void step(ObservantYard x, int system, int state, int step, int label, int target) {
        Check.is(x.getLabel(system, state, step), label);
        Check.is(x.getTarget(system, state, step), target);
    }

    /** What each kind of branch allows, with a name of its own and with the kept one. */
    private static void kindsOfBranches() {
        ObservantYard x = withAgents(7);
        x.addBranch(0, 'e', 0, 2, 1);
        x.addBranch(0, 't', 3, 3, 2);
        x.addBranch(0, 'e', 3, 4, 3);
        x.addBranch(0, 'o', 4, 1, 4);
        x.addBranch(0, 'o', 3, 4, 5);
        x.addBranch(0, 'i', 4, 3, 6);
        x.addSystem(0, 2);
        x.addSystem(0, 1);
        Check.is(x.countSteps(0, 0), 6);
        step(x, 0, 0, 0, 0, 1);
        step(x, 0, 0, 1, 0, 2);
        step(x, 0, 0, 2, 0, 3);
        step(x, 0, 0, 3, 121, 4);
        step(x, 0, 0, 4, 132, 5);
        step(x, 0, 0, 5, 223, 6);
        for (int state = 1; state < 7; state++) {
            Check.is(x.getAgent(0, state, 0), state);
            Check.is(x.getKept(0, state, 0), 2);
        }
        Check.is(x.countSteps(1, 0), 5);
        step(x, 1, 0, 0, 0, 1);
        Check.is(x.getAgent(1, 1, 0), 2);
        step(x, 1, 0, 2, 111, 3);
        step(x, 1, 0, 3, 131, 4);
        step(x, 1, 0, 4, 213, 5);
        for (int wrong : new int[] {-1, 5, Integer.MAX_VALUE, Integer.MIN_VALUE}) {
            Check.noElement(() -> x.getLabel(1, 0, wrong));
            Check.noElement(() -> x.getTarget(1, 0, wrong));
        }
        Check.noElement(() -> x.getLabel(1, 1, 0));
        Check.noElement(() -> x.getTarget(1, 1, 0));
    }

    private static void received() {
        ObservantYard x = withAgents(2);
        x.addBranch(0, 'i', 1, 4, 1);
        x.addBranch(0, 'i', 1, 3, 1);
        x.addSystem(0, 2);
        x.hide(0, 0, true);
        Check.is(x.countSteps(0, 0), 4);
        step(x, 0, 0, 0, 211, 1);
        Check.is(x.getKept(0, 1, 0), 1);
        step(x, 0, 0, 1, 212, 2);
        Check.is(x.getKept(0, 2, 0), 2);
        step(x, 0, 0, 2, 213, 2);
        step(x, 0, 0, 3, 213, 3);
        Check.is(x.getKept(0, 3, 0), 3);
        x.hide(0, 1, true);
        Check.is(x.countSteps(0, 0), 0);
    }

    /** Targets are found in the order of what they are, and told in the order of their numbers. */
    private static void orderOfSteps() {
        ObservantYard x = withAgents(4);
        x.addBranch(0, 'o', 1, 0, 1);
        x.addBranch(0, 't', 0, 0, 3);
        x.addBranch(0, 'o', 1, 0, 2);
        x.addBranch(0, 'o', 0, 3, 0);
        x.addBranch(0, 't', 1, 0, 3);
        x.addBranch(3, 't', 0, 0, 2);
        x.addSystem(0, 0);
        x.addBranch(3, 't', 0, 0, 1);
        x.addBranch(3, 't', 0, 0, 0);
        x.addBranch(3, 't', 0, 0, 3);
        Check.is(x.countStates(0), 4);
        Check.is(x.countSteps(0, 0), 4);
        step(x, 0, 0, 0, 0, 1);
        step(x, 0, 0, 1, 103, 0);
        step(x, 0, 0, 2, 110, 2);
        step(x, 0, 0, 3, 110, 3);
        Check.is(x.getAgent(0, 1, 0), 3);
        Check.is(x.getAgent(0, 2, 0), 1);
        Check.is(x.getAgent(0, 3, 0), 2);
        x.lead(0, 1, 2);
        x.lead(0, 4, 2);
        x.addBranch(2, 't', 0, 0, 1);
        x.addBranch(2, 't', 0, 0, 2);
        Check.is(x.countStates(0), 3);
        Check.is(x.getAgent(0, 1, 0), 2);
        step(x, 0, 1, 0, 0, 1);
        step(x, 0, 1, 1, 0, 2);
        step(x, 0, 0, 2, 110, 1);
        step(x, 0, 0, 3, 110, 2);
    }

    /** Of the first parts the agents come first, then their names, then the next parts. */
    private static void orderOfStates() {
        ObservantYard x = withAgents(4);
        x.addBranch(0, 't', 0, 0, 3);
        x.addBranch(1, 't', 0, 0, 0);
        x.addBranch(2, 't', 0, 0, 1);
        x.addSystem(2, 3);
        x.addPart(0, 1, 0);
        x.addPart(0, 0, 2);
        int[][] states = {{1, 3, 1, 0, 0, 2}, {2, 3, 0, 0, 0, 2}, {2, 3, 1, 0, 3, 2}};
        for (int state = 1; state <= 3; state++) {
            step(x, 0, 0, state - 1, 0, state);
            for (int part = 0; part < 3; part++) {
                Check.is(x.getAgent(0, state, part), states[state - 1][2 * part]);
                Check.is(x.getKept(0, state, part), states[state - 1][2 * part + 1]);
            }
        }
        Check.is(x.countStates(0), 4 * 3 * 2);
    }

    private static void meetings() {
        ObservantYard x = withAgents(6);
        x.addBranch(0, 'o', 4, 1, 1);
        x.addBranch(2, 'i', 3, 4, 3);
        x.addBranch(2, 'i', 3, 1, 4);
        x.addBranch(2, 'i', 3, 2, 5);
        x.addBranch(2, 'i', 2, 4, 5);
        x.addSystem(0, 3);
        x.addPart(0, 2, 0);
        for (int name = 0; name < 4; name++) {
            x.hide(0, name, true);
        }
        Check.is(x.countStates(0), 3);
        Check.is(x.countSteps(0, 0), 2);
        step(x, 0, 0, 0, 0, 1);
        step(x, 0, 0, 1, 0, 2);
        Check.is(x.getAgent(0, 1, 0), 1);
        Check.is(x.getAgent(0, 1, 1), 3);
        Check.is(x.getKept(0, 1, 0), 3);
        Check.is(x.getKept(0, 1, 1), 1);
        Check.is(x.getAgent(0, 2, 1), 4);
        Check.is(x.getKept(0, 2, 1), 0);
        x.hide(0, 1, false);
        Check.is(x.countSteps(0, 0), 2);
        x.hide(0, 3, false);
        Check.is(x.countSteps(0, 0), 2 + 1 + 3);
        step(x, 0, 0, 2, 131, 3);
        x.setPart(0, 0, 0, 1);
        Check.is(x.countSteps(0, 0), 1 + 3);
        step(x, 0, 0, 0, 111, 1);
    }

    /** The last part sends, the first one receives along the name it keeps, the one between stands by. */
    private static void meetingsBackwards() {
        ObservantYard x = withAgents(4);
        x.addBranch(0, 'i', 4, 4, 1);
        x.addBranch(2, 'o', 1, 4, 3);
        x.addSystem(0, 1);
        x.addPart(0, 3, 0);
        x.addPart(0, 2, 2);
        x.hide(0, 1, true);
        Check.is(x.countStates(0), 2);
        step(x, 0, 0, 0, 0, 1);
        Check.is(x.getAgent(0, 1, 0), 1);
        Check.is(x.getKept(0, 1, 0), 2);
        Check.is(x.getAgent(0, 1, 1), 3);
        Check.is(x.getKept(0, 1, 1), 0);
        Check.is(x.getAgent(0, 1, 2), 3);
        Check.is(x.getKept(0, 1, 2), 2);
        x.setPart(0, 0, 3, 1);
        Check.is(x.countStates(0), 1);
    }

    /** No part meets itself, though it could send and receive. */
    private static void alone() {
        ObservantYard x = withAgents(1);
        x.addBranch(0, 'o', 0, 0, 0);
        x.addBranch(0, 'i', 0, 0, 0);
        x.addSystem(0, 0);
        Check.is(x.canShow(0, 0), false);
        Check.is(x.countSteps(0, 0), 2);
        x.addPart(0, 0, 0);
        Check.is(x.canShow(0, 0), true);
        Check.is(x.countSteps(0, 0), 3);
    }

    /** Many of one kind in a row: 6 are sent, 24 received, and those of them that are received are met. */
    private static void manySteps() {
        ObservantYard x = withAgents(8);
        for (int branch = 0; branch < 6; branch++) {
            x.addBranch(0, 'o', branch / 4, branch % 4, 0);
            x.addBranch(1, 'i', 0, 4, 2 + branch);
        }
        x.addSystem(0, 0);
        x.addPart(0, 1, 0);
        Check.is(x.countStates(0), 25);
        Check.is(x.countSteps(0, 0), 24 + 6 + 24);
        step(x, 0, 0, 23, 0, 24);
        step(x, 0, 0, 24, 100, 0);
        step(x, 0, 0, 29, 111, 0);
        step(x, 0, 0, 30, 200, 1);
        step(x, 0, 0, 53, 203, 24);
        x.addPart(0, 1, 0);
        Check.tooMany(() -> x.countSteps(0, 0));
    }

    private static void countStuck() {
        ObservantYard x = withAgents(3);
        x.addSystem(0, 0);
        Check.is(x.countStuck(0), 1);
        Check.is(x.stepsToStuck(0), 0);
        x.addBranch(0, 't', 0, 0, 1);
        x.addBranch(0, 't', 0, 0, 2);
        Check.is(x.countStuck(0), 2);
        x.addBranch(1, 'e', 0, 1, 1);
        Check.is(x.countStuck(0), 2);
        x.setPart(0, 0, 0, 1);
        Check.is(x.countStuck(0), 1);
        x.addBranch(2, 'o', 0, 3, 2);
        Check.is(x.countStuck(0), 0);
        x.hide(0, 3, true);
        Check.is(x.countStuck(0), 1);
    }

    private static void canChatter() {
        ObservantYard x = withAgents(4);
        x.addBranch(0, 't', 0, 0, 1);
        x.addBranch(1, 'o', 0, 0, 0);
        x.addBranch(2, 't', 0, 0, 2);
        x.addSystem(0, 0);
        Check.is(x.canChatter(0), false);
        x.addBranch(3, 'i', 0, 0, 3);
        x.addPart(0, 3, 0);
        Check.is(x.canChatter(0), true);
        x.lead(1, 0, 3);
        Check.is(x.canChatter(0), false);
        x.addBranch(1, 'o', 1, 1, 2);
        Check.is(x.canChatter(0), true);
        x.hide(0, 1, true);
        Check.is(x.canChatter(0), false);
        x.addBranch(1, 't', 0, 0, 0);
        Check.is(x.canChatter(0), true);
        x.lead(1, 2, 3);
        Check.is(x.canChatter(0), false);
        x.addBranch(0, 'e', 0, 4, 0);
        Check.is(x.canChatter(0), true);
    }

    private static void labels(int from, int end) {
        ObservantYard x = withAgents(1);
        x.addSystem(0, 0);
        for (int label = from; label < end; label++) {
            int asked = label;
            boolean isLabel = label == 0 || label >= 100 && label < 300 && label / 10 % 10 < 4 && label % 10 < 4;
            if (isLabel) {
                Check.is(x.canShow(0, label), false);
            } else {
                Check.badArgument(() -> x.canShow(0, asked));
            }
        }
    }

    private static void canShow() {
        labels(-20, 180);
        labels(180, 480);
        labels(1080, 1240);
        ObservantYard x = withAgents(2);
        x.addSystem(0, 0);
        Check.badArgument(() -> x.canShow(0, Integer.MIN_VALUE));
        Check.badArgument(() -> x.canShow(0, Integer.MAX_VALUE));
        Check.badArgument(() -> x.canShow(0, -100));
        x.addBranch(0, 'o', 3, 1, 1);
        x.addBranch(1, 'i', 1, 3, 1);
        Check.is(x.canShow(0, 131), true);
        Check.is(x.canShow(0, 213), true);
        Check.is(x.canShow(0, 113), false);
        Check.is(x.canShow(0, 231), false);
        Check.is(x.canShow(0, 0), false);
        x.addBranch(1, 't', 0, 0, 0);
        Check.is(x.canShow(0, 0), true);
        x.hide(0, 1, true);
        Check.is(x.canShow(0, 131), false);
        Check.is(x.canShow(0, 213), false);
        Check.is(x.canShow(0, 0), false);
    }

    private static void stepsToStuck() {
        ObservantYard x = withAgents(6);
        for (int agent = 0; agent < 4; agent++) {
            x.addBranch(agent, 'o', 0, agent, agent + 1);
        }
        x.addBranch(0, 't', 0, 0, 0);
        x.addBranch(4, 't', 0, 0, 5);
        x.addSystem(0, 0);
        Check.is(x.stepsToStuck(0), 5);
        x.addBranch(1, 'i', 0, 0, 4);
        Check.is(x.stepsToStuck(0), 3);
        x.addBranch(2, 't', 0, 0, 5);
        Check.is(x.stepsToStuck(0), 3);
        x.lead(0, 0, 2);
        Check.is(x.stepsToStuck(0), 2);
        x.addBranch(5, 't', 0, 0, 0);
        Check.is(x.stepsToStuck(0), -1);
        x.setPart(0, 0, 5, 0);
        x.dropBranch(5, 0);
        Check.is(x.stepsToStuck(0), 0);
    }

    private static void figures() {
        ObservantYard x = withAgents(2);
        x.addSystem(0, 0);
        Check.is(x.checksum(0), 7L * 31);
        Check.is(x.meanSteps(0), 0.0);
        Check.tooMany(() -> x.silentShare(0));
        x.addBranch(0, 't', 0, 0, 1);
        Check.is(x.silentShare(0), 1.0f);
        Check.is(x.meanSteps(0), 0.5);
        Check.is(x.checksum(0), (((7L * 31 + 1) * 31 + 0) * 31 + 1) * 31 + 0);
        x.addBranch(0, 'o', 2, 1, 0);
        x.addBranch(0, 'i', 3, 2, 1);
        Check.is(x.silentShare(0), 1f / 3f);
        Check.is(x.meanSteps(0), 1.5);
        long sum = 7 * 31 + 3;
        for (int item : new int[] {0, 1, 121, 0, 232, 1, 0}) {
            sum = 31 * sum + item;
        }
        Check.is(x.checksum(0), sum);
        x.dropBranch(0, 0);
        x.hide(0, 1, true);
        x.hide(0, 2, true);
        Check.tooMany(() -> x.silentShare(0));
        x.hide(0, 2, false);
        Check.is(x.silentShare(0), 0.0f);
        Check.is(x.meanSteps(0), 0.5);
        Check.is(x.checksum(0), (((7L * 31 + 1) * 31 + 232) * 31 + 1) * 31);
    }

    /** The sum goes over all states, and over the steps of each. */
    private static void longChecksum() {
        ObservantYard x = withAgents(3);
        x.addBranch(0, 'i', 0, 4, 1);
        x.addBranch(1, 'o', 4, 2, 2);
        x.addBranch(1, 't', 0, 0, 0);
        x.addBranch(2, 'e', 0, 1, 0);
        x.addSystem(0, 3);
        x.addPart(0, 2, 1);
        long sum = 7;
        int states = x.countStates(0);
        Check.is(states > 20, true);
        for (int state = 0; state < states; state++) {
            int steps = x.countSteps(0, state);
            sum = 31 * sum + steps;
            for (int step = 0; step < steps; step++) {
                sum = 31 * sum + x.getLabel(0, state, step);
                sum = 31 * sum + x.getTarget(0, state, step);
            }
        }
        Check.is(x.checksum(0), sum);
    }

    /** What is asked after an edit is of what is there then, in each system that it touches. */
    private static void edits() {
        ObservantYard x = withAgents(3);
        x.addBranch(0, 'o', 0, 0, 1);
        x.addSystem(0, 0);
        x.addSystem(1, 0);
        Check.is(x.countStates(0), 2);
        Check.is(x.countStates(1), 1);
        x.addBranch(1, 't', 0, 0, 2);
        Check.is(x.countStates(0), 3);
        Check.is(x.countStates(1), 2);
        x.lead(1, 0, 1);
        Check.is(x.countStates(0), 2);
        Check.is(x.canChatter(1), true);
        x.dropBranch(1, 0);
        Check.is(x.canChatter(1), false);
        Check.is(x.countStuck(0), 1);
        x.addPart(1, 0, 0);
        Check.is(x.countStates(1), 2);
        x.setPart(1, 1, 1, 0);
        Check.is(x.countStates(1), 1);
    }

    public static void main(String[] args) {
        countStates();
        upToAHundredAndFifty();
        wrongAndTooMany();
        wrongSystems();
        kindsOfBranches();
        received();
        orderOfSteps();
        orderOfStates();
        meetings();
        meetingsBackwards();
        alone();
        manySteps();
        countStuck();
        canChatter();
        canShow();
        stepsToStuck();
        figures();
        longChecksum();
        edits();
        Check.end();
    }
}
