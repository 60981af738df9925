import java.util.function.Supplier;

/** Systems near the limits: the class against the naive model, or against what is counted by hand. */
public final class LargeTest {
    private final ObservantYard yard = new ObservantYard();
    private final NaiveYard model = new NaiveYard();

    // ---- the same calls for both

    private void agents(int count) {
        for (int agent = 0; agent < count; agent++) {
            Check.is(yard.addAgent(), model.addAgent());
        }
    }

    private void branch(int agent, char kind, int channel, int value, int next) {
        Check.is(yard.addBranch(agent, kind, channel, value, next),
                model.addBranch(agent, kind, channel, value, next));
    }

    private void drop(int agent, int branch) {
        Check.is(yard.dropBranch(agent, branch), model.dropBranch(agent, branch));
    }

    private int system(int... agents) {
        int system = yard.addSystem(agents[0], 0);
        Check.is(system, model.addSystem(agents[0], 0));
        for (int part = 1; part < agents.length; part++) {
            Check.is(yard.addPart(system, agents[part], 0), model.addPart(system, agents[part], 0));
        }
        return system;
    }

    private void hideAll(int system) {
        for (int name = 0; name < 4; name++) {
            Check.is(yard.hide(system, name, true), model.hide(system, name, true));
        }
    }

    private static Object answer(Supplier<Object> call) {
        try {
            return call.get();
        } catch (RuntimeException e) {
            return e.getClass();
        }
    }

    private static void same(Supplier<Object> due, Supplier<Object> got) {
        Check.is(answer(got), answer(due));
    }

    private void sameGraph(int system, int states) {
        Check.is(yard.countStates(system), states);
        same(() -> model.checksum(system), () -> yard.checksum(system));
        same(() -> model.countStuck(system), () -> yard.countStuck(system));
        same(() -> model.stepsToStuck(system), () -> yard.stepsToStuck(system));
        same(() -> model.canChatter(system), () -> yard.canChatter(system));
        same(() -> model.silentShare(system), () -> yard.silentShare(system));
    }

    private void sameLikeness(int system, int other) {
        for (char kind : "swbt".toCharArray()) {
            same(() -> model.isAlike(system, other, kind), () -> yard.isAlike(system, other, kind));
        }
        same(() -> model.simulates(system, other), () -> yard.simulates(system, other));
        same(() -> model.simulates(other, system), () -> yard.simulates(other, system));
        same(() -> model.roundsApart(system, other), () -> yard.roundsApart(system, other));
        same(() -> model.firstStep(system, other), () -> yard.firstStep(system, other));
    }

    private void sameClasses(int system) {
        for (char kind : "swb".toCharArray()) {
            same(() -> model.countClasses(system, kind), () -> yard.countClasses(system, kind));
        }
    }

    // ---- systems

    /**
     * One round of 150 states: a chain of ten that sends, at its end, to one of six agents, three of which are
     * in four states each. The last state leads back to the first one, when there is no room for more.
     */
    private int roundOf150() {
        agents(16);
        for (int agent = 0; agent < 9; agent++) {
            branch(agent, 't', 0, 0, agent + 1);
        }
        for (int name = 0; name < 4; name++) {
            branch(9, 'o', 0, name, 0);
        }
        branch(9, 'o', 1, 0, 0);
        for (int agent = 10; agent < 16; agent++) {
            branch(agent, 'i', agent < 13 ? 0 : 1, 4, agent < 15 ? agent + 1 : 10);
        }
        int system = system(0, 10);
        hideAll(system);
        return system;
    }

    private static void fullRound() {
        LargeTest x = new LargeTest();
        int first = x.roundOf150();
        x.sameGraph(first, 150);
        Check.is(x.yard.countSteps(first, 149), 1);
        Check.is(x.yard.getTarget(first, 149, 0), 0);
        Check.is(x.yard.stepsToStuck(first), -1);
        int second = x.yard.copy(first);
        Check.is(x.yard.setPart(second, 0, 1, 0), 0);
        Check.is(x.yard.countStates(second), 150);
        for (char kind : "swbt".toCharArray()) {
            Check.is(x.yard.isAlike(first, second, kind), true);
            Check.is(x.yard.areAlike(first, 0, 149, kind), true);
        }
        Check.is(x.yard.roundsApart(first, second), -1);
        x.branch(9, 'o', 1, 1, 0);
        Check.tooMany(() -> x.yard.countStates(first));
    }

    /** The pairs that simulates looks at are as many as there can be, again and again. */
    private static void overAndOver() {
        LargeTest x = new LargeTest();
        int first = x.roundOf150();
        int second = x.yard.copy(first);
        for (int call = 0; call < 400; call++) {
            Check.is(x.yard.simulates(first, second), true);
        }
        x.yard.hide(second, 0, false);
        Check.is(x.yard.simulates(first, second), false);
        Check.is(x.yard.simulates(second, first), true);
    }

    /** Two systems of 144 states each that show all labels. */
    private static void allLabels() {
        LargeTest x = new LargeTest();
        x.agents(16);
        for (int channel = 0; channel < 4; channel++) {
            x.branch(0, 'i', channel, 4, 1);
            x.branch(2, 'o', channel, 4, 0);
        }
        x.branch(1, 't', 0, 0, 2);
        for (int agent = 3; agent < 15; agent++) {
            x.branch(agent, 't', 0, 0, agent < 14 ? agent + 1 : 3);
        }
        int first = x.system(0, 3);
        int second = x.system(0, 8);
        int third = x.system(3, 2);
        x.sameGraph(first, 144);
        x.sameGraph(third, 144);
        for (int label : new int[] {0, 100, 113, 133, 200, 231, 233}) {
            Check.is(x.yard.canShow(second, label), true);
        }
        x.sameClasses(first);
        x.sameLikeness(first, second);
        x.sameLikeness(first, third);
        Check.is(x.yard.countTraces(first, 1), 16);
        Check.is(x.yard.countTraces(first, 2), 16 * 4);
        Check.is(x.yard.countTraces(first, 5), 16 * 4 * 16 * 4 * 16);
        x.branch(14, 'o', 3, 3, 15);
        x.sameClasses(first);
        x.sameLikeness(first, second);
    }

    /** Six agents in a round, each keeping what it received, beside a chain that may, or may not, stop early. */
    private static void manyPairsOfSets() {
        LargeTest x = new LargeTest();
        x.agents(15);
        for (int agent = 0; agent < 6; agent++) {
            x.branch(agent, 'i', 3, 4, (agent + 1) % 6);
            x.branch(agent, 'o', 4, 0, agent);
        }
        x.branch(0, 'o', 4, 1, 0);
        for (int agent = 6; agent < 10; agent++) {
            x.branch(agent, 'o', 2, 2, agent + 1);
        }
        for (int agent = 11; agent < 15; agent++) {
            x.branch(agent, 'o', 2, 2, agent < 14 ? agent + 1 : 10);
            x.branch(agent, 'o', 2, 2, 10);
        }
        int steady = x.system(6, 0);
        int fickle = x.system(11, 0);
        x.sameGraph(steady, 120);
        x.sameGraph(fickle, 120);
        Check.is(x.yard.isAlike(steady, fickle, 't'), true);
        Check.is(x.yard.isAlike(steady, fickle, 'w'), false);
        x.sameLikeness(steady, fickle);
        x.branch(10, 'o', 2, 2, 10);
        Check.is(x.yard.isAlike(steady, fickle, 't'), true);
        x.drop(10, 0);
        x.branch(14, 'o', 2, 1, 10);
        Check.is(x.yard.isAlike(steady, fickle, 't'), false);
        x.sameLikeness(steady, fickle);
        x.drop(14, 2);
        x.drop(14, 1);
        x.drop(14, 0);
        Check.is(x.yard.isAlike(steady, fickle, 't'), false);
        x.sameLikeness(steady, fickle);
    }

    /** Rows of three labels come to more than 64 unlike sets. */
    private static void manySets() {
        LargeTest x = new LargeTest();
        x.agents(6);
        for (int agent = 0; agent < 3; agent++) {
            x.branch(agent, 'i', 3, 4, (agent + 1) % 3);
            x.branch(agent, 'o', 0, 4, agent);
            x.branch(agent + 3, 'i', 2, 4, (agent + 1) % 3 + 3);
            x.branch(agent + 3, 'o', 1, 4, agent + 3);
        }
        x.branch(0, 'o', 0, 1, 2);
        x.branch(3, 'o', 1, 2, 5);
        int system = x.system(0, 3);
        x.sameGraph(system, 144);
        x.sameClasses(system);
        for (int length = 1; length <= 5; length++) {
            int rows = length;
            same(() -> x.model.countTraces(system, rows), () -> x.yard.countTraces(system, rows));
        }
        Check.is(x.yard.countTraces(system, 2), x.model.countTraces(system, 2));
    }

    /** Thirty labels can be shown anywhere, so that each row of five of them is one. */
    private static void mostRows() {
        LargeTest x = new LargeTest();
        x.agents(3);
        for (int channel = 0; channel < 4; channel++) {
            x.branch(0, 'i', channel, 4, 0);
        }
        for (int label = 0; label < 14; label++) {
            x.branch(label < 2 ? 0 : label < 8 ? 1 : 2, 'o', label / 4, label % 4, label < 2 ? 0 : label < 8 ? 1 : 2);
        }
        int system = x.system(0, 1, 2);
        x.sameGraph(system, 4);
        int rows = 1;
        for (int length = 1; length <= 5; length++) {
            rows *= 30;
            Check.is(x.yard.countTraces(system, length), rows);
        }
    }

    /** A system and a tester that come to hundreds of states together, most of them on rounds. */
    private static void manyOfBoth() {
        LargeTest x = new LargeTest();
        x.agents(14);
        for (int agent = 0; agent < 5; agent++) {
            x.branch(agent, 'i', 3, 4, agent + 1);
            x.branch(agent, 'o', 2, 4, agent + 1);
        }
        x.branch(5, 't', 0, 0, 0);
        for (int agent = 6; agent < 11; agent++) {
            x.branch(agent, 'o', 3, agent % 4, agent + 1);
            x.branch(agent, 'i', 2, 4, agent + 1);
        }
        x.branch(11, 't', 0, 0, 12);
        x.branch(12, 'e', 0, 3, 13);
        x.branch(12, 'e', 0, 2, 6);
        int tested = x.system(0);
        int tester = x.system(6);
        int both = x.system(0, 0);
        x.sameGraph(tested, x.model.countStates(tested));
        x.sameGraph(tester, x.model.countStates(tester));
        x.sameTests(tested, tester);
        x.sameTests(tester, tested);
        x.sameTests(both, tester);
        x.branch(12, 't', 0, 0, 13);
        x.sameTests(tested, tester);
        x.drop(12, 1);
        x.sameTests(tested, tester);
        x.branch(8, 't', 0, 0, 7);
        x.sameTests(tested, tester);
    }

    /** Of two ways out behind the 63 states before them, one is content, the other one is never. */
    private static void forkBehindMany() {
        LargeTest x = new LargeTest();
        x.agents(16);
        for (int agent = 0; agent < 7; agent++) {
            x.branch(agent, 't', 0, 0, agent + 1);
            x.branch(agent + 8, 'i', 0, 0, agent + 9);
        }
        x.branch(7, 'o', 0, 0, 0);
        x.branch(15, 'i', 0, 0, 1);
        int tested = x.system(0);
        int tester = x.system(8);
        Check.is(x.yard.must(tested, tester, 1), true);
        x.branch(15, 'i', 0, 0, 2);
        Check.is(x.yard.may(tested, tester, 1), true);
        Check.is(x.yard.must(tested, tester, 1), false);
        Check.is(x.yard.must(tested, tester, 2), true);
        Check.is(x.yard.must(tested, tester, 7), true);
    }

    private void sameTests(int system, int tester) {
        for (int agent = 0; agent < 14; agent++) {
            int content = agent;
            same(() -> model.may(system, tester, content), () -> yard.may(system, tester, content));
            same(() -> model.must(system, tester, content), () -> yard.must(system, tester, content));
        }
    }

    public static void main(String[] args) {
        fullRound();
        overAndOver();
        allLabels();
        manyPairsOfSets();
        manySets();
        mostRows();
        manyOfBoth();
        forkBehindMany();
        Check.end();
    }
}
