/** Promises 38 and 39: testers. */
public final class TestersTest {
    private static ObservantYard withAgents(int count) {
        ObservantYard x = new ObservantYard();
        for (int agent = 0; agent < count; agent++) {
            x.addAgent();
        }
        return x;
    }

    private static void tested(ObservantYard x, int content, boolean may, boolean must) {
        Check.is(x.may(0, 1, content), may);
        Check.is(x.must(0, 1, content), must);
    }

    /** Agent 0 is tested, 1 tests; 2 is content, 3 stops. */
    private static ObservantYard pair() {
        ObservantYard x = withAgents(4);
        x.addSystem(0, 0);
        x.addSystem(1, 0);
        return x;
    }

    private static void contentAtFirst() {
        ObservantYard x = pair();
        tested(x, 1, true, true);
        tested(x, 0, false, false);
        tested(x, 2, false, false);
        x.addBranch(0, 't', 0, 0, 0);
        tested(x, 1, true, true);
        tested(x, 0, false, false);
        Check.is(x.may(0, 0, 0), true);
        Check.is(x.must(0, 0, 0), true);
        Check.is(x.must(0, 0, 1), false);
        x.addPart(1, 3, 1);
        tested(x, 3, true, true);
        tested(x, 1, true, true);
        x.addPart(1, 2, 0);
        tested(x, 2, true, true);
        x.addPart(0, 0, 2);
        tested(x, 0, false, false);
    }

    private static void meetsBothWays() {
        ObservantYard x = pair();
        x.addBranch(0, 'o', 1, 2, 3);
        x.addBranch(1, 'i', 1, 2, 2);
        tested(x, 2, true, true);
        Check.is(x.may(1, 0, 3), true);
        Check.is(x.must(1, 0, 3), true);
        Check.is(x.may(1, 0, 2), false);
        x.addBranch(1, 'o', 1, 2, 3);
        tested(x, 2, true, true);
        x.dropBranch(0, 0);
        tested(x, 2, false, false);
        x.addBranch(0, 'i', 1, 4, 3);
        tested(x, 2, false, false);
        tested(x, 3, true, true);
    }

    private static void meetsByNames() {
        ObservantYard x = pair();
        x.addBranch(0, 'o', 1, 2, 3);
        x.addBranch(1, 'i', 2, 1, 2);
        tested(x, 2, false, false);
        x.addBranch(1, 'i', 1, 1, 2);
        tested(x, 2, false, false);
        x.addBranch(1, 'o', 1, 2, 2);
        tested(x, 2, false, false);
        x.addBranch(1, 'i', 4, 4, 2);
        tested(x, 2, false, false);
        x.setPart(1, 0, 1, 1);
        tested(x, 2, true, true);
        x.hide(0, 2, true);
        tested(x, 2, false, false);
        x.hide(0, 2, false);
        x.hide(1, 1, true);
        tested(x, 2, false, false);
        x.hide(1, 1, false);
        x.hide(1, 0, true);
        tested(x, 2, true, true);
    }

    private static void mustAndLoops() {
        ObservantYard x = pair();
        x.addBranch(1, 't', 0, 0, 2);
        tested(x, 2, true, true);
        x.addBranch(0, 't', 0, 0, 0);
        tested(x, 2, true, false);
        x.lead(0, 0, 3);
        tested(x, 2, true, true);
        x.addBranch(1, 't', 0, 0, 3);
        tested(x, 2, true, false);
        x.addBranch(3, 'e', 0, 4, 2);
        tested(x, 2, true, true);
        x.setPart(0, 0, 2, 0);
        tested(x, 2, true, true);
        x.addBranch(2, 't', 0, 0, 1);
        tested(x, 2, true, false);
        x.setPart(0, 0, 0, 0);
        x.dropBranch(0, 0);
        tested(x, 2, true, true);
        x.lead(1, 1, 1);
        tested(x, 2, true, false);
    }

    /** What goes on alone is silent: steps that show and find no partner are not taken. */
    private static void nothingElse() {
        ObservantYard x = pair();
        x.addBranch(1, 'o', 0, 0, 2);
        x.addBranch(1, 'i', 0, 4, 2);
        tested(x, 2, false, false);
        x.addBranch(0, 'o', 3, 3, 3);
        tested(x, 2, false, false);
        x.addBranch(1, 'e', 0, 1, 2);
        tested(x, 2, false, false);
        x.setPart(1, 0, 1, 1);
        tested(x, 2, true, true);
        x.addPart(1, 0, 0);
        tested(x, 2, true, true);
    }

    private static void someRowsOnly() {
        ObservantYard x = withAgents(8);
        x.addBranch(0, 'o', 0, 0, 1);
        x.addBranch(0, 'o', 0, 0, 2);
        x.addBranch(1, 'o', 0, 1, 3);
        x.addBranch(2, 'o', 0, 2, 3);
        x.addBranch(4, 'i', 0, 0, 5);
        x.addBranch(5, 'i', 0, 1, 6);
        x.addSystem(0, 0);
        x.addSystem(4, 0);
        tested(x, 6, true, false);
        tested(x, 5, true, true);
        tested(x, 7, false, false);
        x.addBranch(5, 'i', 0, 2, 6);
        tested(x, 6, true, true);
        x.addBranch(3, 't', 0, 0, 3);
        tested(x, 6, true, true);
        x.addBranch(4, 't', 0, 0, 4);
        tested(x, 6, true, false);
        tested(x, 4, true, true);
    }

    private static void wrongTests() {
        ObservantYard x = withAgents(3);
        x.addBranch(0, 'i', 0, 4, 1);
        x.addBranch(1, 't', 0, 0, 0);
        x.addSystem(0, 0);
        x.addSystem(0, 0);
        x.addPart(1, 0, 0);
        x.addPart(1, 0, 0);
        Check.tooMany(() -> x.countStates(1));
        for (int wrong : new int[] {-1, 3, Integer.MAX_VALUE, Integer.MIN_VALUE}) {
            Check.noIndex(() -> x.may(wrong, 1, 0));
            Check.noIndex(() -> x.may(1, wrong, 0));
            Check.noIndex(() -> x.may(1, 0, wrong));
            Check.noIndex(() -> x.must(wrong, 1, 0));
            Check.noIndex(() -> x.must(1, wrong, 0));
            Check.noIndex(() -> x.must(0, 1, wrong));
        }
        Check.noIndex(() -> x.may(2, 0, 0));
        Check.noIndex(() -> x.must(0, 2, 0));
        for (int[] both : new int[][] {{0, 1}, {1, 0}, {1, 1}}) {
            Check.tooMany(() -> x.may(both[0], both[1], 0));
            Check.tooMany(() -> x.must(both[0], both[1], 0));
        }
        Check.is(x.may(0, 0, 0), true);
        Check.is(x.must(0, 0, 0), true);
    }

    /** Silent steps along a chain of agents, for each part from where it begins. */
    private static ObservantYard chain(int agents, int[] tested, int[] tester) {
        ObservantYard x = withAgents(agents + 1);
        for (int agent = 0; agent < agents - 1; agent++) {
            x.addBranch(agent, 't', 0, 0, agent + 1);
        }
        for (int[] parts : new int[][] {tested, tester}) {
            int system = x.addSystem(parts[0], 0);
            for (int part = 1; part < parts.length; part++) {
                x.addPart(system, parts[part], 0);
            }
        }
        return x;
    }

    private static void sixHundred() {
        ObservantYard x = chain(14, new int[] {9, 11, 12}, new int[] {4, 12});
        Check.is(x.countStates(0), 30);
        Check.is(x.countStates(1), 20);
        tested(x, 13, true, true);
        tested(x, 4, true, true);
        tested(x, 5, true, true);
        tested(x, 3, false, false);
        x.setPart(1, 0, 3, 0);
        Check.tooMany(() -> x.may(0, 1, 13));
        Check.tooMany(() -> x.must(0, 1, 3));
        x.setPart(1, 0, 4, 0);
        tested(x, 13, true, true);
    }

    /** 600 states fit, one more does not, be they behind content ones or not. */
    private static void oneMore() {
        ObservantYard x = chain(9, new int[] {1, 1}, new int[] {0});
        x.addBranch(7, 'o', 0, 0, 9);
        x.addBranch(1, 'i', 0, 0, 9);
        Check.is(x.countStates(0), 81);
        Check.is(x.countStates(1), 10);
        for (int content = 0; content < 10; content++) {
            int asked = content;
            Check.tooMany(() -> x.may(0, 1, asked));
            Check.tooMany(() -> x.must(0, 1, asked));
        }
        x.dropBranch(7, 1);
        Check.is(x.may(0, 1, 0), true);
        Check.is(x.must(0, 1, 8), true);
    }

    public static void main(String[] args) {
        contentAtFirst();
        meetsBothWays();
        meetsByNames();
        mustAndLoops();
        nothingElse();
        someRowsOnly();
        wrongTests();
        sixHundred();
        oneMore();
        Check.end();
    }
}
