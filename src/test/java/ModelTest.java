import java.util.Random;
import java.util.function.Supplier;

/** Random runs of calls, with fixed seeds, on the class and on the naive model: all answers are to be alike. */
public final class ModelTest {
    private static int wrong = 0;
    private static long calls = 0;

    private final Random random;
    private final ObservantYard yard = new ObservantYard();
    private final NaiveYard model = new NaiveYard();
    private final StringBuilder told = new StringBuilder();
    private final long seed;
    /** The most states for which the model is asked for relations. */
    private final int mostRelated;

    private ModelTest(long seed, int mostRelated) {
        this.seed = seed;
        this.mostRelated = mostRelated;
        random = new Random(seed);
    }

    private static String answer(Supplier<Object> call) {
        try {
            return String.valueOf(call.get());
        } catch (RuntimeException e) {
            return "throws " + e.getClass().getSimpleName();
        }
    }

    private void same(String text, Supplier<Object> due, Supplier<Object> got) {
        String want = answer(due);
        String have = answer(got);
        calls++;
        told.append(text).append(" = ").append(want).append("; ");
        if (!want.equals(have)) {
            wrong++;
            if (wrong < 10) {
                System.out.println("seed " + seed + ": " + text + " answered " + have + ", due is " + want);
                System.out.println("  after " + told);
            }
        }
    }

    /** Mostly in range, now and then just outside. */
    private int pick(int bound) {
        if (random.nextInt(40) == 0) {
            return random.nextBoolean() ? -1 : bound;
        }
        return bound == 0 ? 0 : random.nextInt(bound);
    }

    private char pick(String signs) {
        return random.nextInt(40) == 0 ? 'x' : signs.charAt(random.nextInt(signs.length()));
    }

    private int label() {
        if (random.nextInt(30) == 0) {
            return new int[] {-1, 1, 99, 104, 140, 144, 300, 204, 240, 1000, Integer.MIN_VALUE}[random.nextInt(11)];
        }
        if (random.nextInt(4) == 0) {
            return 0;
        }
        return 100 * (1 + random.nextInt(2)) + 10 * random.nextInt(4) + random.nextInt(4);
    }

    private void addAgent() {
        same("addAgent()", model::addAgent, yard::addAgent);
    }

    private void addBranch(String kinds, int namesUsed) {
        int agent = pick(model.agents.size());
        char kind = pick(kinds);
        int channel = random.nextInt(3) == 0 ? pick(5) : random.nextInt(namesUsed);
        int value = random.nextInt(3) == 0 ? pick(5) : random.nextInt(namesUsed);
        int next = pick(model.agents.size());
        same("addBranch(" + agent + ", '" + kind + "', " + channel + ", " + value + ", " + next + ")",
                () -> model.addBranch(agent, kind, channel, value, next),
                () -> yard.addBranch(agent, kind, channel, value, next));
    }

    private void addSystem() {
        int agent = pick(model.agents.size());
        int kept = pick(4);
        same("addSystem(" + agent + ", " + kept + ")", () -> model.addSystem(agent, kept),
                () -> yard.addSystem(agent, kept));
    }

    private void edit() {
        int system = pick(model.systems.size());
        int agent = pick(model.agents.size());
        int branch = pick(4);
        int name = pick(4);
        switch (random.nextInt(8)) {
            case 0 -> same("addPart(" + system + ", " + agent + ", " + name + ")",
                    () -> model.addPart(system, agent, name), () -> yard.addPart(system, agent, name));
            case 1 -> {
                int part = pick(2);
                same("setPart(" + system + ", " + part + ", " + agent + ", " + name + ")",
                        () -> model.setPart(system, part, agent, name), () -> yard.setPart(system, part, agent, name));
            }
            case 2, 3 -> {
                boolean isHidden = random.nextBoolean();
                same("hide(" + system + ", " + name + ", " + isHidden + ")",
                        () -> model.hide(system, name, isHidden), () -> yard.hide(system, name, isHidden));
            }
            case 4 -> same("copy(" + system + ")", () -> model.copy(system), () -> yard.copy(system));
            case 5 -> same("dropBranch(" + agent + ", " + branch + ")", () -> model.dropBranch(agent, branch),
                    () -> yard.dropBranch(agent, branch));
            case 6 -> {
                int next = pick(model.agents.size());
                same("lead(" + agent + ", " + branch + ", " + next + ")", () -> model.lead(agent, branch, next),
                        () -> yard.lead(agent, branch, next));
            }
            default -> addBranch("teoi", 2);
        }
    }

    private void addFormula() {
        int formula = pick(model.formulas.size());
        int other = pick(model.formulas.size());
        switch (random.nextInt(5)) {
            case 0 -> same("addNot(" + formula + ")", () -> model.addNot(formula), () -> yard.addNot(formula));
            case 1 -> same("addBoth(" + formula + ", " + other + ")", () -> model.addBoth(formula, other),
                    () -> yard.addBoth(formula, other));
            case 2 -> same("addReach(" + formula + ")", () -> model.addReach(formula), () -> yard.addReach(formula));
            default -> {
                char kind = pick("dw");
                int label = label();
                same("addStep('" + kind + "', " + label + ", " + formula + ")",
                        () -> model.addStep(kind, label, formula), () -> yard.addStep(kind, label, formula));
            }
        }
    }

    private int sizeOf(int system) {
        if (system < 0 || system >= model.systems.size()) {
            return 0;
        }
        NaiveYard.Graph graph = model.graph(system);
        return graph.tooMany ? 0 : graph.size();
    }

    private void askGraph() {
        int system = pick(model.systems.size());
        int state = pick(Math.max(1, sizeOf(system)));
        int step = pick(6);
        int part = pick(Math.max(1, system >= 0 && system < model.systems.size() ? model.countParts(system) : 1));
        String at = system + ", " + state;
        switch (random.nextInt(15)) {
            case 0 -> same("countStates(" + system + ")", () -> model.countStates(system), () -> yard.countStates(system));
            case 1 -> same("countSteps(" + at + ")", () -> model.countSteps(system, state), () -> yard.countSteps(system, state));
            case 2 -> same("getLabel(" + at + ", " + step + ")", () -> model.getLabel(system, state, step),
                    () -> yard.getLabel(system, state, step));
            case 3 -> same("getTarget(" + at + ", " + step + ")", () -> model.getTarget(system, state, step),
                    () -> yard.getTarget(system, state, step));
            case 4 -> same("getAgent(" + at + ", " + part + ")", () -> model.getAgent(system, state, part),
                    () -> yard.getAgent(system, state, part));
            case 5 -> same("getKept(" + at + ", " + part + ")", () -> model.getKept(system, state, part),
                    () -> yard.getKept(system, state, part));
            case 6 -> same("countStuck(" + system + ")", () -> model.countStuck(system), () -> yard.countStuck(system));
            case 7 -> same("canChatter(" + system + ")", () -> model.canChatter(system), () -> yard.canChatter(system));
            case 8 -> {
                int label = label();
                same("canShow(" + system + ", " + label + ")", () -> model.canShow(system, label),
                        () -> yard.canShow(system, label));
            }
            case 9 -> same("stepsToStuck(" + system + ")", () -> model.stepsToStuck(system), () -> yard.stepsToStuck(system));
            case 10 -> same("silentShare(" + system + ")", () -> model.silentShare(system), () -> yard.silentShare(system));
            case 11 -> same("meanSteps(" + system + ")", () -> model.meanSteps(system), () -> yard.meanSteps(system));
            case 12 -> same("countParts(" + system + ")", () -> model.countParts(system), () -> yard.countParts(system));
            case 13 -> same("countBranches(" + state + ")", () -> model.countBranches(state), () -> yard.countBranches(state));
            default -> same("checksum(" + system + ")", () -> model.checksum(system), () -> yard.checksum(system));
        }
    }

    private void askRelation() {
        int system = pick(model.systems.size());
        int other = pick(model.systems.size());
        if (sizeOf(system) > mostRelated || sizeOf(other) > mostRelated) {
            return;
        }
        int state = pick(Math.max(1, sizeOf(system)));
        int second = pick(Math.max(1, sizeOf(system)));
        String both = "(" + system + ", " + other + ")";
        switch (random.nextInt(8)) {
            case 0, 1 -> {
                char kind = pick("swbt");
                same("isAlike(" + system + ", " + other + ", '" + kind + "')", () -> model.isAlike(system, other, kind),
                        () -> yard.isAlike(system, other, kind));
            }
            case 2, 3 -> {
                char kind = pick("swbt");
                same("areAlike(" + system + ", " + state + ", " + second + ", '" + kind + "')",
                        () -> model.areAlike(system, state, second, kind), () -> yard.areAlike(system, state, second, kind));
            }
            case 4 -> {
                char kind = pick("swb");
                same("countClasses(" + system + ", '" + kind + "')", () -> model.countClasses(system, kind),
                        () -> yard.countClasses(system, kind));
            }
            case 5 -> same("simulates" + both, () -> model.simulates(system, other), () -> yard.simulates(system, other));
            case 6 -> same("roundsApart" + both, () -> model.roundsApart(system, other), () -> yard.roundsApart(system, other));
            default -> same("firstStep" + both, () -> model.firstStep(system, other), () -> yard.firstStep(system, other));
        }
    }

    private void askRest() {
        int system = pick(model.systems.size());
        int other = pick(model.systems.size());
        int formula = pick(model.formulas.size());
        int content = pick(model.agents.size());
        int size = Math.max(sizeOf(system), sizeOf(other));
        switch (random.nextInt(8)) {
            case 0 -> same("holds(" + system + ", " + formula + ")", () -> model.holds(system, formula),
                    () -> yard.holds(system, formula));
            case 1 -> same("countHolding(" + system + ", " + formula + ")", () -> model.countHolding(system, formula),
                    () -> yard.countHolding(system, formula));
            case 2 -> same("tellingFormula(" + system + ", " + other + ")", () -> model.tellingFormula(system, other),
                    () -> yard.tellingFormula(system, other));
            case 3, 4 -> same("may(" + system + ", " + other + ", " + content + ")", () -> model.may(system, other, content),
                    () -> yard.may(system, other, content));
            case 5, 6 -> same("must(" + system + ", " + other + ", " + content + ")", () -> model.must(system, other, content),
                    () -> yard.must(system, other, content));
            default -> {
                int length = 1 + random.nextInt(size > 20 ? 3 : 4);
                same("countTraces(" + system + ", " + length + ")", () -> model.countTraces(system, length),
                        () -> yard.countTraces(system, length));
            }
        }
    }

    private void run(int agents, int branches, String kinds, int namesUsed, int asked) {
        for (int agent = 0; agent < agents; agent++) {
            addAgent();
        }
        for (int branch = 0; branch < branches; branch++) {
            addBranch(kinds, namesUsed);
        }
        for (int system = 0; system < 3; system++) {
            addSystem();
        }
        for (int call = 0; call < asked; call++) {
            switch (random.nextInt(10)) {
                case 0, 1 -> edit();
                case 2 -> addFormula();
                case 3, 4, 5 -> askGraph();
                case 6, 7 -> askRelation();
                default -> askRest();
            }
            if (call % 50 == 0) {
                same("isSound()", model::isSound, yard::isSound);
            }
            if (random.nextInt(60) == 0) {
                addAgent();
                addSystem();
            }
        }
    }

    public static void main(String[] args) {
        String[] kinds = {"teoi", "ttoi", "to", "oi", "too", "teei", "ttttoi"};
        for (long seed = 1; seed <= 1000; seed++) {
            ModelTest test = new ModelTest(seed, 24);
            int agents = 1 + test.random.nextInt(6);
            test.run(agents, agents + test.random.nextInt(2 * agents + 1), kinds[(int) (seed % kinds.length)],
                    1 + test.random.nextInt(4), 250);
        }
        for (long seed = 10001; seed <= 10200; seed++) {
            ModelTest test = new ModelTest(seed, 150);
            test.run(5 + test.random.nextInt(11), 20 + test.random.nextInt(30), kinds[(int) (seed % kinds.length)],
                    1 + test.random.nextInt(3), 60);
        }
        System.out.println(calls + " calls compared, " + wrong + " wrong");
        if (wrong != 0) {
            System.exit(1);
        }
    }
}
