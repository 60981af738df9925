/** Promises 1 to 12: a new object, equations and systems. */
public final class EquationsTest {
    private static final int LOW = Integer.MIN_VALUE;
    private static final int HIGH = Integer.MAX_VALUE;

    private static ObservantYard withAgents(int count) {
        ObservantYard x = new ObservantYard();
        for (int agent = 0; agent < count; agent++) {
            x.addAgent();
        }
        return x;
    }

    private static void newObject() {
        ObservantYard x = new ObservantYard();
        Check.noIndex(() -> x.countBranches(0));
        Check.noIndex(() -> x.countParts(0));
        Check.noIndex(() -> x.countStates(0));
        Check.noIndex(() -> x.addSystem(0, 0));
        Check.is(x.getDepth(0), 0);
        Check.noIndex(() -> x.getDepth(1));
        Check.is(x.isSound(), true);
        Check.is(x.addAgent(), 0);
        Check.is(x.addSystem(0, 0), 0);
        Check.is(x.holds(0, 0), true);
        Check.is(x.addNot(0), 1);
        ObservantYard y = new ObservantYard();
        Check.noIndex(() -> y.countBranches(0));
        Check.noIndex(() -> y.getDepth(1));
    }

    private static void addAgent() {
        ObservantYard x = new ObservantYard();
        for (int agent = 0; agent < 16; agent++) {
            int missing = agent;
            Check.noIndex(() -> x.countBranches(missing));
            Check.is(x.addAgent(), agent);
            Check.is(x.countBranches(agent), 0);
        }
        Check.noRoom(x::addAgent);
        Check.noRoom(x::addAgent);
        Check.noIndex(() -> x.countBranches(16));
        Check.is(x.countBranches(15), 0);
    }

    private static void addBranch() {
        ObservantYard x = withAgents(3);
        Check.is(x.addBranch(1, 't', 0, 0, 0), 0);
        Check.is(x.addBranch(1, 'e', 4, 4, 1), 1);
        Check.is(x.addBranch(1, 'o', 4, 0, 2), 2);
        Check.is(x.addBranch(1, 'i', 0, 4, 2), 3);
        Check.is(x.addBranch(1, 'i', 3, 3, 2), 4);
        Check.is(x.addBranch(2, 't', 1, 2, 2), 0);
        wrongBranches(x, 1);
        Check.is(x.countBranches(1), 5);
        Check.is(x.addBranch(1, 't', 0, 0, 0), 5);
        Check.noRoom(() -> x.addBranch(1, 't', 0, 0, 0));
        wrongBranches(x, 1);
        Check.is(x.countBranches(0), 0);
        Check.is(x.countBranches(1), 6);
        Check.is(x.countBranches(2), 1);
    }

    /** Whatever else is wrong, or full: a wrong agent is told first, then a wrong sign or number. */
    private static void wrongBranches(ObservantYard x, int agent) {
        for (int wrong : new int[] {-1, 3, LOW, HIGH}) {
            Check.noIndex(() -> x.addBranch(wrong, 't', 0, 0, 0));
            Check.noIndex(() -> x.addBranch(agent, 't', 0, 0, wrong));
            Check.noIndex(() -> x.addBranch(wrong, 'x', 9, 9, 0));
            Check.noIndex(() -> x.addBranch(agent, 'x', -1, 5, wrong));
        }
        for (char wrong : new char[] {'T', 's', 'w', 'd', 'r', 0, 'E', 'O', 'I', 'u', 'f', 'p', 'n', 'j', 'h', 0xffff}) {
            Check.badArgument(() -> x.addBranch(agent, wrong, 0, 0, 0));
        }
        for (int wrong : new int[] {-1, 5, LOW, HIGH}) {
            for (char kind : "teoi".toCharArray()) {
                Check.badArgument(() -> x.addBranch(agent, kind, wrong, 0, 0));
                Check.badArgument(() -> x.addBranch(agent, kind, 0, wrong, 0));
            }
        }
    }

    private static void dropBranch() {
        ObservantYard x = withAgents(6);
        for (int branch = 0; branch < 4; branch++) {
            x.addBranch(0, 'o', 0, branch, 2 + branch);
        }
        x.addBranch(1, 't', 0, 0, 1);
        x.addSystem(0, 0);
        Check.is(x.countSteps(0, 0), 4);
        Check.noIndex(() -> x.dropBranch(0, 4));
        Check.noIndex(() -> x.dropBranch(0, -1));
        Check.noIndex(() -> x.dropBranch(6, 0));
        Check.noIndex(() -> x.dropBranch(-1, 0));
        Check.noIndex(() -> x.dropBranch(2, 0));
        Check.is(x.dropBranch(0, 1), 3);
        Check.is(x.countBranches(0), 3);
        Check.is(x.countBranches(1), 1);
        Check.is(x.countSteps(0, 0), 3);
        Check.is(x.getLabel(0, 0, 0), 100);
        Check.is(x.getLabel(0, 0, 1), 102);
        Check.is(x.getLabel(0, 0, 2), 103);
        Check.is(x.lead(0, 0, 2), 2);
        Check.is(x.lead(0, 1, 4), 4);
        Check.is(x.lead(0, 2, 5), 5);
        Check.is(x.dropBranch(0, 2), 2);
        Check.is(x.dropBranch(0, 0), 1);
        Check.is(x.getLabel(0, 0, 0), 102);
        Check.is(x.dropBranch(0, 0), 0);
        Check.noIndex(() -> x.dropBranch(0, 0));
        Check.is(x.countSteps(0, 0), 0);
        Check.is(x.addBranch(0, 't', 0, 0, 0), 0);
        Check.is(x.countBranches(1), 1);
    }

    private static void dropMovesAllOfBranch() {
        ObservantYard x = withAgents(3);
        x.addBranch(0, 't', 0, 0, 0);
        x.addBranch(0, 'i', 3, 4, 1);
        x.addBranch(0, 'e', 1, 2, 2);
        x.addSystem(0, 2);
        Check.is(x.dropBranch(0, 0), 2);
        Check.is(x.countSteps(0, 0), 5);
        Check.is(x.getLabel(0, 0, 0), 0);
        Check.is(x.getAgent(0, x.getTarget(0, 0, 0), 0), 2);
        Check.is(x.getLabel(0, 0, 1), 230);
        Check.is(x.getAgent(0, x.getTarget(0, 0, 1), 0), 1);
        Check.is(x.getLabel(0, 0, 4), 233);
    }

    private static void dropOfLastAgent() {
        ObservantYard x = withAgents(16);
        for (int branch = 0; branch < 6; branch++) {
            x.addBranch(15, 'o', 3, branch % 4, branch);
        }
        for (int left = 5; left >= 0; left--) {
            Check.is(x.dropBranch(15, left > 2 ? 0 : left), left);
            Check.is(x.countBranches(15), left);
        }
        Check.noIndex(() -> x.dropBranch(15, 0));
    }

    private static void lead() {
        ObservantYard x = withAgents(3);
        x.addBranch(0, 'o', 1, 1, 1);
        x.addBranch(0, 'o', 2, 2, 0);
        x.addSystem(0, 0);
        Check.is(x.countStates(0), 2);
        Check.is(x.lead(0, 1, 2), 0);
        Check.is(x.countStates(0), 3);
        Check.is(x.lead(0, 0, 2), 1);
        Check.is(x.countStates(0), 2);
        for (int wrong : new int[] {-1, 3, LOW, HIGH}) {
            Check.noIndex(() -> x.lead(wrong, 0, 0));
            Check.noIndex(() -> x.lead(0, 0, wrong));
        }
        Check.noIndex(() -> x.lead(0, 2, 0));
        Check.noIndex(() -> x.lead(0, -1, 0));
        Check.noIndex(() -> x.lead(1, 0, 0));
        Check.is(x.lead(0, 0, 0), 2);
        Check.is(x.lead(0, 1, 0), 2);
        Check.is(x.countStates(0), 1);
    }

    private static void countBranches() {
        ObservantYard x = withAgents(2);
        Check.is(x.countBranches(1), 0);
        for (int branch = 0; branch < 6; branch++) {
            x.addBranch(1, 'o', 0, 0, 0);
            Check.is(x.countBranches(1), branch + 1);
        }
        Check.is(x.countBranches(0), 0);
        Check.noIndex(() -> x.countBranches(2));
        Check.noIndex(() -> x.countBranches(-1));
    }

    private static void addSystem() {
        ObservantYard x = withAgents(2);
        for (int system = 0; system < 6; system++) {
            Check.is(x.addSystem(system % 2, system % 4), system);
            Check.is(x.countParts(system), 1);
            Check.is(x.getAgent(system, 0, 0), system % 2);
            Check.is(x.getKept(system, 0, 0), system % 4);
            if (system == 4) {
                wrongSystems(x);
            }
        }
        wrongSystems(x);
        Check.noRoom(() -> x.addSystem(0, 0));
        Check.noIndex(() -> x.countParts(6));
        for (int name = 0; name < 4; name++) {
            Check.is(x.hide(5, name, false), false);
        }
    }

    private static void wrongSystems(ObservantYard x) {
        for (int wrong : new int[] {-1, 2, LOW, HIGH}) {
            Check.noIndex(() -> x.addSystem(wrong, 0));
            Check.noIndex(() -> x.addSystem(wrong, 9));
        }
        for (int wrong : new int[] {-1, 4, LOW, HIGH}) {
            Check.badArgument(() -> x.addSystem(0, wrong));
        }
    }

    private static void addPart() {
        ObservantYard x = withAgents(3);
        x.addSystem(0, 0);
        x.addSystem(1, 1);
        Check.is(x.addPart(1, 2, 3), 1);
        wrongParts(x);
        Check.is(x.addPart(1, 0, 2), 2);
        wrongParts(x);
        Check.noRoom(() -> x.addPart(1, 0, 0));
        Check.is(x.countParts(1), 3);
        Check.is(x.countParts(0), 1);
        int[] agents = {1, 2, 0};
        int[] kept = {1, 3, 2};
        for (int part = 0; part < 3; part++) {
            Check.is(x.getAgent(1, 0, part), agents[part]);
            Check.is(x.getKept(1, 0, part), kept[part]);
        }
    }

    private static void wrongParts(ObservantYard x) {
        Check.noIndex(() -> x.addPart(2, 0, 0));
        Check.noIndex(() -> x.addPart(-1, 0, 7));
        Check.noIndex(() -> x.addPart(1, 3, 4));
        Check.noIndex(() -> x.addPart(1, -1, 0));
        for (int wrong : new int[] {-1, 4, LOW, HIGH}) {
            Check.badArgument(() -> x.addPart(1, 0, wrong));
        }
    }

    private static void setPart() {
        ObservantYard x = withAgents(3);
        x.addSystem(0, 0);
        x.addPart(0, 1, 1);
        Check.is(x.setPart(0, 0, 2, 3), 0);
        Check.is(x.setPart(0, 1, 2, 2), 1);
        Check.is(x.setPart(0, 1, 0, 1), 2);
        for (int wrong : new int[] {-1, 2, LOW, HIGH}) {
            Check.noIndex(() -> x.setPart(0, wrong, 0, 0));
            Check.noIndex(() -> x.setPart(0, wrong, 0, 9));
        }
        for (int wrong : new int[] {-1, 1, LOW, HIGH}) {
            Check.noIndex(() -> x.setPart(wrong, 0, 0, 0));
        }
        Check.noIndex(() -> x.setPart(0, 0, 3, 4));
        Check.noIndex(() -> x.setPart(0, 0, -1, 0));
        Check.badArgument(() -> x.setPart(0, 0, 0, 4));
        Check.badArgument(() -> x.setPart(0, 0, 0, -1));
        Check.is(x.countParts(0), 2);
        Check.is(x.getAgent(0, 0, 0), 2);
        Check.is(x.getKept(0, 0, 0), 3);
        Check.is(x.getAgent(0, 0, 1), 0);
        Check.is(x.getKept(0, 0, 1), 1);
    }

    private static void hide() {
        ObservantYard x = withAgents(2);
        x.addBranch(0, 'o', 2, 3, 1);
        x.addBranch(0, 'i', 3, 4, 1);
        x.addSystem(0, 0);
        x.addSystem(0, 0);
        Check.is(x.countSteps(0, 0), 5);
        Check.is(x.hide(0, 2, true), false);
        Check.is(x.hide(0, 2, true), true);
        Check.is(x.countSteps(0, 0), 3);
        Check.is(x.canShow(0, 123), false);
        Check.is(x.canShow(0, 232), false);
        Check.is(x.canShow(0, 233), true);
        Check.is(x.hide(0, 3, true), false);
        Check.is(x.countSteps(0, 0), 0);
        Check.is(x.hide(0, 2, false), true);
        Check.is(x.hide(0, 2, false), false);
        Check.is(x.countSteps(0, 0), 0);
        Check.is(x.hide(0, 3, false), true);
        Check.is(x.countSteps(0, 0), 5);
        Check.is(x.countSteps(1, 0), 5);
        Check.is(x.hide(1, 0, true), false);
        Check.is(x.hide(0, 0, false), false);
        for (int wrong : new int[] {-1, 4, LOW, HIGH}) {
            Check.badArgument(() -> x.hide(0, wrong, true));
            Check.noIndex(() -> x.hide(2, wrong, true));
        }
        Check.noIndex(() -> x.hide(-1, 0, true));
        Check.noIndex(() -> x.hide(2, 0, false));
    }

    private static void copy() {
        ObservantYard x = withAgents(2);
        x.addBranch(0, 'o', 0, 1, 1);
        x.addSystem(0, 2);
        x.addPart(0, 1, 3);
        x.addSystem(1, 0);
        x.hide(0, 1, true);
        Check.is(x.copy(0), 2);
        Check.is(x.countParts(2), 2);
        Check.is(x.getAgent(2, 0, 0), 0);
        Check.is(x.getAgent(2, 0, 1), 1);
        Check.is(x.getKept(2, 0, 0), 2);
        Check.is(x.getKept(2, 0, 1), 3);
        Check.is(x.countSteps(2, 0), 0);
        Check.is(x.hide(2, 1, false), true);
        Check.is(x.hide(2, 0, false), false);
        Check.is(x.countSteps(2, 0), 1);
        Check.is(x.countSteps(0, 0), 0);
        Check.is(x.hide(0, 1, true), true);
        Check.is(x.setPart(2, 0, 1, 1), 0);
        Check.is(x.getAgent(0, 0, 0), 0);
        Check.is(x.addPart(2, 0, 0), 2);
        Check.is(x.countParts(0), 2);
        Check.is(x.copy(1), 3);
        Check.is(x.countParts(3), 1);
        Check.is(x.copy(3), 4);
        Check.noIndex(() -> x.copy(5));
        Check.noIndex(() -> x.copy(-1));
        Check.is(x.copy(2), 5);
        Check.noRoom(() -> x.copy(0));
        Check.noIndex(() -> x.copy(6));
        Check.noIndex(() -> x.copy(LOW));
        Check.is(x.countParts(5), 3);
    }

    private static void countParts() {
        ObservantYard x = withAgents(1);
        Check.noIndex(() -> x.countParts(0));
        x.addSystem(0, 0);
        for (int parts = 1; parts <= 3; parts++) {
            Check.is(x.countParts(0), parts);
            if (parts < 3) {
                x.addPart(0, 0, 0);
            }
        }
        Check.noIndex(() -> x.countParts(1));
        Check.noIndex(() -> x.countParts(-1));
        Check.noIndex(() -> x.countParts(HIGH));
    }

    public static void main(String[] args) {
        newObject();
        addAgent();
        addBranch();
        dropBranch();
        dropMovesAllOfBranch();
        dropOfLastAgent();
        lead();
        countBranches();
        addSystem();
        addPart();
        setPart();
        hide();
        copy();
        countParts();
        Check.end();
    }
}
