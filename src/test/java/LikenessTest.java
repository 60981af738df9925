/** Promises 23 to 29 and 43: likeness, games, traces and soundness. */
public final class LikenessTest {
    private static final String KINDS = "swbt";

    private static ObservantYard withAgents(int count) {
        ObservantYard x = new ObservantYard();
        for (int agent = 0; agent < count; agent++) {
            x.addAgent();
        }
        return x;
    }

    /** Agents from rows such as "a1 b2 t3": a to d send the names 0 to 3 along 0, t is silent; a system for each start. */
    private static ObservantYard yard(String agents, int... starts) {
        String[] rows = agents.split(",", -1);
        ObservantYard x = withAgents(rows.length);
        for (int agent = 0; agent < rows.length; agent++) {
            for (String branch : rows[agent].strip().split(" ")) {
                if (!branch.isEmpty()) {
                    char sign = branch.charAt(0);
                    int next = Integer.parseInt(branch.substring(1));
                    x.addBranch(agent, sign == 't' ? 't' : 'o', 0, sign == 't' ? 0 : sign - 'a', next);
                }
            }
        }
        for (int start : starts) {
            x.addSystem(start, 0);
        }
        return x;
    }

    /** Whether systems 0 and 1 are alike strongly, weakly, branching and by traces, as + or -. */
    private static void alike(ObservantYard x, String due) {
        StringBuilder told = new StringBuilder();
        StringBuilder turned = new StringBuilder();
        StringBuilder same = new StringBuilder();
        for (char kind : KINDS.toCharArray()) {
            told.append(x.isAlike(0, 1, kind) ? '+' : '-');
            turned.append(x.isAlike(1, 0, kind) ? '+' : '-');
            same.append(x.isAlike(0, 0, kind) && x.isAlike(1, 1, kind) ? '+' : '-');
        }
        Check.is(told.toString(), due);
        Check.is(turned.toString(), due);
        Check.is(same.toString(), "++++");
        Check.is(x.isSound(), true);
    }

    private static void apart(ObservantYard x, int rounds, int firstStep) {
        Check.is(x.roundsApart(0, 1), rounds);
        Check.is(x.roundsApart(1, 0), rounds);
        Check.is(x.firstStep(0, 1), firstStep);
    }

    private static void isAlike() {
        alike(yard("a0, a2, a1", 0, 1), "++++");
        alike(yard("a1, , a3, ", 0, 2), "++++");
        alike(yard("a1, , b1", 0, 2), "----");
        alike(yard("a1, , ", 0, 2), "----");
        alike(yard("a1, b2 c2, , a4 a5, b2, c2", 0, 3), "---+");
        alike(yard("a1, t2, b3, , a2", 0, 4), "-+++");
        alike(yard("t0, ", 0, 1), "-+++");
        alike(yard("t1 b2, a2, , a2 b2", 0, 3), "---+");
        alike(yard("a1 a2, b3 t2, c3, , a1", 0, 4), "-+-+");
        alike(yard("t1 a2, a2, , t1", 0, 3), "-+++");
        alike(yard("t1 a2, a2 b2, , t1", 0, 3), "-+++");
        alike(yard("a1, , a1 t3, ", 0, 2), "---+");
        alike(yard("t1, t0 a2, , a2", 0, 3), "-+++");
    }

    /** Silent steps behind one that shows are weakly its answer, too: so it stays by branching only if nothing is lost. */
    private static void silentBehind() {
        alike(yard("a1 a2, t2 b3, t3, , a1", 0, 4), "-+-+");
        alike(yard("a1, t2, , a2", 0, 3), "-+++");
        alike(yard("a1, b2, , a4, t5 b2, b2", 0, 3), "-+++");
        alike(yard("a1, b2, , a4, t2 b2", 0, 3), "---+");
    }

    /** The last of seven states on a round can stop by one label or by another one, whichever is asked first. */
    private static void lastOfARound() {
        String round = "a1 b2, a2 b3, a3 b4, a4 b5, a5 b6, a6 b0, a0 b1 c14, ";
        String other = "a8 b9, a9 b10, a10 b11, a11 b12, a12 b13, a13 b7, a7 b8 ";
        alike(yard(round + other + "c14, ", 0, 7), "++++");
        alike(yard(round + other + "d14, ", 0, 7), "----");
        alike(yard(round + other + "d14, ", 10, 3), "----");
        alike(yard(round + other + "c14 d14, ", 7, 0), "----");
        alike(yard(round + other + ", ", 5, 12), "----");
    }

    /** Labels differ by channel, name and direction, and a hidden name has none. */
    private static void alikeByLabels() {
        ObservantYard x = withAgents(6);
        x.addBranch(0, 'o', 1, 2, 5);
        x.addBranch(1, 'o', 2, 1, 5);
        x.addBranch(2, 'i', 1, 2, 5);
        x.addBranch(3, 'o', 4, 2, 5);
        x.addSystem(0, 0);
        x.addSystem(1, 0);
        alike(x, "----");
        apart(x, 1, 112);
        x.setPart(1, 0, 2, 0);
        alike(x, "----");
        apart(x, 1, 112);
        x.setPart(1, 0, 3, 0);
        alike(x, "----");
        apart(x, 1, 1102);
        x.setPart(1, 0, 3, 1);
        alike(x, "++++");
        x.hide(1, 1, true);
        alike(x, "----");
        x.hide(0, 2, true);
        alike(x, "++++");
    }

    private static void wrongAlike() {
        ObservantYard x = yard("a1, ", 0);
        tooBig(x);
        for (int wrong : new int[] {-1, 2, Integer.MAX_VALUE, Integer.MIN_VALUE}) {
            Check.noIndex(() -> x.isAlike(wrong, 0, 's'));
            Check.noIndex(() -> x.isAlike(0, wrong, 'x'));
            Check.noIndex(() -> x.areAlike(wrong, 0, 0, 's'));
            Check.noIndex(() -> x.areAlike(0, wrong, 0, 's'));
            Check.noIndex(() -> x.areAlike(0, 0, wrong, 'x'));
            Check.noIndex(() -> x.countClasses(wrong, 'x'));
            Check.noIndex(() -> x.simulates(wrong, 0));
            Check.noIndex(() -> x.simulates(1, wrong));
            Check.noIndex(() -> x.roundsApart(wrong, 1));
            Check.noIndex(() -> x.roundsApart(0, wrong));
            Check.noIndex(() -> x.firstStep(wrong, 0));
            Check.noIndex(() -> x.firstStep(1, wrong));
            Check.noIndex(() -> x.countTraces(wrong, 9));
        }
        for (char wrong : new char[] {'x', 'S', 0, 'd', 'r', 'u', 'v', 'a', 'c', 0x173}) {
            Check.badArgument(() -> x.isAlike(0, 1, wrong));
            Check.badArgument(() -> x.areAlike(1, 0, 999, wrong));
            Check.badArgument(() -> x.countClasses(1, wrong));
        }
        Check.badArgument(() -> x.countClasses(0, 't'));
        Check.badArgument(() -> x.countClasses(1, 't'));
        for (char kind : KINDS.toCharArray()) {
            Check.tooMany(() -> x.isAlike(0, 1, kind));
            Check.tooMany(() -> x.isAlike(1, 0, kind));
            Check.tooMany(() -> x.isAlike(1, 1, kind));
            Check.tooMany(() -> x.areAlike(1, 0, 0, kind));
            Check.tooMany(() -> x.areAlike(1, 150, 7000, kind));
            Check.noIndex(() -> x.areAlike(1, 0, -1, kind));
        }
        for (char kind : "swb".toCharArray()) {
            Check.tooMany(() -> x.countClasses(1, kind));
        }
        for (int[] pair : new int[][] {{0, 1}, {1, 0}, {1, 1}}) {
            Check.tooMany(() -> x.simulates(pair[0], pair[1]));
            Check.tooMany(() -> x.roundsApart(pair[0], pair[1]));
            Check.tooMany(() -> x.firstStep(pair[0], pair[1]));
        }
        for (int wrong : new int[] {0, 6, -1, Integer.MAX_VALUE, Integer.MIN_VALUE}) {
            Check.badArgument(() -> x.countTraces(0, wrong));
            Check.badArgument(() -> x.countTraces(1, wrong));
        }
        Check.tooMany(() -> x.countTraces(1, 1));
        Check.is(x.isSound(), true);
    }

    /** Adds a system of three parts that each have eight states. */
    private static void tooBig(ObservantYard x) {
        int first = x.addAgent();
        int second = x.addAgent();
        x.addBranch(first, 'i', 0, 4, second);
        x.addBranch(second, 't', 0, 0, first);
        int system = x.addSystem(first, 0);
        x.addPart(system, first, 0);
        x.addPart(system, first, 0);
        Check.tooMany(() -> x.countStates(system));
    }

    private static void areAlike() {
        ObservantYard y = yard("d1 d2, a3 a4, a3, b5 t4, c5, ", 0);
        Check.is(y.countStates(0), 6);
        Check.is(y.getAgent(0, 2, 0), 2);
        Check.is(y.areAlike(0, 1, 2, 's'), false);
        Check.is(y.areAlike(0, 1, 2, 'w'), true);
        Check.is(y.areAlike(0, 1, 2, 'b'), false);
        Check.is(y.areAlike(0, 1, 2, 't'), true);
        Check.is(y.areAlike(0, 2, 1, 't'), true);
        Check.is(y.areAlike(0, 0, 1, 't'), false);
        Check.is(y.areAlike(0, 3, 4, 't'), false);
        Check.is(y.areAlike(0, 4, 3, 'w'), false);
        for (int state = 0; state < 6; state++) {
            for (char kind : KINDS.toCharArray()) {
                Check.is(y.areAlike(0, state, state, kind), true);
            }
        }
        Check.noIndex(() -> y.areAlike(0, 6, 0, 's'));
        Check.noIndex(() -> y.areAlike(0, 0, 6, 's'));
    }

    private static void countClasses() {
        classes(yard("", 0), 1, 1, 1);
        classes(yard("t0 a0", 0), 1, 1, 1);
        classes(yard("a1, t2, b3, ", 0), 4, 3, 3);
        classes(yard("d1 d2, a3 a4, a3, b5 t4, c5, ", 0), 6, 5, 6);
        classes(yard("a1 a2, a3, a4, b0, b0", 0), 3, 3, 3);
        classes(yard("t1, t2, t3, t0", 0), 1, 1, 1);
        classes(yard("t1, t2, t3, ", 0), 4, 1, 1);
        classes(yard("t1, t2, t3 a0, t0", 0), 4, 1, 1);
    }

    private static void classes(ObservantYard x, int strong, int weak, int branching) {
        Check.is(x.countClasses(0, 's'), strong);
        Check.is(x.countClasses(0, 'w'), weak);
        Check.is(x.countClasses(0, 'b'), branching);
    }

    private static void simulates() {
        ObservantYard x = yard("a1, b2 c2, , a4 a5, b2, c2, t0, a1 d2", 0, 3, 6, 2, 7);
        boolean[][] due = {
            {true, true, false, true, false},
            {false, true, false, true, false},
            {false, false, true, true, false},
            {false, false, false, true, false},
            {true, true, false, true, true},
        };
        for (int system = 0; system < 5; system++) {
            for (int other = 0; other < 5; other++) {
                Check.is(x.simulates(system, other), due[system][other]);
            }
        }
        ObservantYard loops = yard("a0, a2, a1, a4, a5, ", 0, 1, 3);
        Check.is(loops.simulates(0, 1), true);
        Check.is(loops.simulates(1, 0), true);
        Check.is(loops.simulates(0, 2), true);
        Check.is(loops.simulates(2, 0), false);
    }

    /** Each copies the other, and yet they are told apart. */
    private static void copiesBothWays() {
        ObservantYard x = yard("a1, b2, , a1 a2", 0, 3);
        Check.is(x.simulates(0, 1), true);
        Check.is(x.simulates(1, 0), true);
        alike(x, "---+");
        apart(x, 2, 1100);
    }

    private static void rounds() {
        ObservantYard same = yard("a0, a2, a1", 0, 1);
        Check.is(same.roundsApart(0, 1), -1);
        Check.is(same.roundsApart(0, 0), -1);
        Check.noElement(() -> same.firstStep(0, 1));
        Check.noElement(() -> same.firstStep(1, 1));
        apart(yard("t0, ", 0, 1), 1, 0);
        apart(yard(", t1", 0, 1), 1, 1000);
        apart(yard("a1, t2, b3, , a2", 0, 4), 2, 100);
        apart(yard("a1, b2 c2, , a4 a5, b2, c2", 0, 3), 2, 100);
        apart(yard("a1, a2, b3 c3, , a5, a6 a7, b3, c3", 0, 4), 3, 100);
        ObservantYard deep = yard("a1, a2, a3, a4, a5, a6, ", 0, 1);
        for (int agent = 0; agent < 7; agent++) {
            deep.setPart(1, 0, agent, 0);
            int left = 6 - agent;
            Check.is(deep.roundsApart(0, 1), agent == 0 ? -1 : left + 1);
        }
    }

    private static void firstSteps() {
        apart(yard("b1, , a1 b1", 0, 2), 1, 1100);
        apart(yard("c1, , a1", 0, 2), 1, 1100);
        apart(yard("a1, , c1", 0, 2), 1, 100);
        apart(yard("a1, b2, , a4, c2", 0, 3), 2, 100);
        apart(yard("a1 b2, , c1, a1 b4, d1", 0, 3), 2, 101);
        apart(yard("a1 c3, a2, b3, , a5, a6, d3", 0, 4), 1, 102);
        apart(yard("a1 a2 b3, b3, , , a2 b3", 0, 4), 2, 100);
        apart(yard("a2 b3, b3, , , a1 a2 b3", 0, 4), 2, 1100);
        apart(yard("a1 b4, b2, , , , a1 b6, b2", 0, 5), 2, 101);
        apart(yard("a1 b2, , b1, a2 b2", 0, 3), 2, 100);
        ObservantYard x = yard(", , ", 0, 1);
        x.addBranch(0, 'i', 3, 3, 2);
        apart(x, 1, 233);
        x.addBranch(1, 'i', 3, 2, 2);
        apart(x, 1, 1232);
        x.addBranch(0, 'o', 3, 3, 2);
        apart(x, 1, 133);
    }

    private static void countTraces() {
        traces(yard("", 0), 0, 0, 0, 0, 0);
        traces(yard("t0", 0), 0, 0, 0, 0, 0);
        traces(yard("a0", 0), 1, 1, 1, 1, 1);
        traces(yard("a0 b0", 0), 2, 4, 8, 16, 32);
        traces(yard("a1 b1 t1, c2, ", 0), 3, 2, 0, 0, 0);
        traces(yard("a1 a2, b3, c3, d0", 0), 1, 2, 2, 2, 4);
        traces(yard("a0 b0 a1, a2 b2, a3 b3, ", 0), 2, 4, 8, 16, 32);
        traces(yard("t1 t2, a1 b2, b2 c1", 0), 3, 6, 12, 24, 48);
        ObservantYard all = withAgents(1);
        for (int channel = 0; channel < 4; channel++) {
            all.addBranch(0, 'i', channel, 4, 0);
        }
        all.addSystem(0, 0);
        traces(all, 16, 256, 4096, 65536, 1048576);
        all.addBranch(0, 'o', 4, 4, 0);
        traces(all, 17, 17 * 17, 17 * 17 * 17, 17 * 17 * 17 * 17, 17 * 17 * 17 * 17 * 17);
    }

    private static void traces(ObservantYard x, int... due) {
        for (int length = 1; length <= 5; length++) {
            Check.is(x.countTraces(0, length), due[length - 1]);
        }
    }

    private static void isSound() {
        ObservantYard x = yard("a1 t0, b0, a1 t2, t2 a3, b2 b0", 0, 2, 3);
        Check.is(x.isSound(), true);
        x.addStep('d', 100, 0);
        x.addReach(x.addStep('w', 101, 1));
        Check.is(x.isSound(), true);
        x.copy(1);
        tooBig(x);
        x.copy(4);
        Check.is(x.isSound(), true);
    }

    public static void main(String[] args) {
        isAlike();
        silentBehind();
        lastOfARound();
        alikeByLabels();
        wrongAlike();
        areAlike();
        countClasses();
        simulates();
        copiesBothWays();
        rounds();
        firstSteps();
        countTraces();
        isSound();
        Check.end();
    }
}
