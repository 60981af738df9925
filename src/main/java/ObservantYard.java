import java.util.Arrays;
import java.util.NoSuchElementException;

/** Processes that are only what one can see of them: see README.md for how to use it. */
public final class ObservantYard {
    private static final int MOST_AGENTS = 16;
    private static final int MOST_BRANCHES = 6;
    private static final int MOST_SYSTEMS = 6;
    private static final int MOST_PARTS = 3;
    private static final int MOST_STATES = 150;
    private static final int MOST_OF_BOTH = 600;
    private static final int MOST_FORMULAS = 40;
    private static final int MOST_DEPTH = 8;
    private static final int MOST_TO_CHECK = 24;
    private static final int LONGEST_ROW = 5;

    private static final int NAMES = 4;
    /** As a channel or a value: the name that is kept. */
    private static final int KEPT = 4;

    /** Labels are held as slots in the same order: 0 silent, 1 to 16 sending, 17 to 32 receiving. */
    private static final int SLOTS = 33;
    private static final int FIRST_SENDING = 1;
    private static final int FIRST_RECEIVING = 17;
    private static final int SLOTS_OF_A_KIND = 16;

    /** The most that three parts of six branches have: one only sends, two receive any name. */
    private static final int MOST_STEPS = 126;

    /** Two graphs side by side, and the words that hold a bit for each of their states. */
    private static final int MOST_SIDE_BY_SIDE = 2 * MOST_STATES;
    private static final int WIDE_WORDS = 5;
    private static final int STATE_WORDS = 3;
    private static final int BOTH_WORDS = 10;

    private static final int NO_LABEL = -1;
    private static final long MIX = 0x9E3779B97F4A7C15L;

    private final Equations equations;
    private final Network[] networks;
    private final Builder builder;
    private final Refiner refiner;
    private final TraceWalk traceWalk;
    private final PairGame pairGame;
    private final FormulaBook formulas;
    private final Bench bench;
    private int networkCount;

    public ObservantYard() {
        equations = new Equations();
        networks = new Network[MOST_SYSTEMS];
        builder = new Builder(equations);
        refiner = new Refiner();
        traceWalk = new TraceWalk(refiner);
        pairGame = new PairGame();
        formulas = new FormulaBook();
        bench = new Bench();
    }

    // ---- equations

    public int addAgent() throws IllegalStateException {
        if (equations.agentCount >= MOST_AGENTS) {
            throw new IllegalStateException("there are 16 agents");
        }
        return equations.newAgent();
    }

    public int addBranch(int agent, char kind, int channel, int value, int next)
            throws IndexOutOfBoundsException, IllegalArgumentException, IllegalStateException {
        needAgent(agent);
        needAgent(next);
        if (kind != 't' && kind != 'e' && kind != 'o' && kind != 'i') {
            throw new IllegalArgumentException("no such kind of branch");
        }
        if (channel < 0 || channel > KEPT || value < 0 || value > KEPT) {
            throw new IllegalArgumentException("a channel or a value is from 0 to 4");
        }
        if (equations.branchCounts[agent] >= MOST_BRANCHES) {
            throw new IllegalStateException("the agent has 6 branches");
        }
        forgetGraphs();
        return equations.newBranch(agent, kind, channel, value, next);
    }

    public int dropBranch(int agent, int branch) throws IndexOutOfBoundsException {
        needBranch(agent, branch);
        forgetGraphs();
        return equations.takeAway(agent, branch);
    }

    public int lead(int agent, int branch, int next) throws IndexOutOfBoundsException {
        needBranch(agent, branch);
        needAgent(next);
        forgetGraphs();
        return equations.leadTo(agent, branch, next);
    }

    public int countBranches(int agent) throws IndexOutOfBoundsException {
        needAgent(agent);
        return equations.branchCounts[agent];
    }

    // ---- systems

    public int addSystem(int agent, int kept)
            throws IndexOutOfBoundsException, IllegalArgumentException, IllegalStateException {
        needAgent(agent);
        needName(kept);
        needRoomForSystem();
        Network network = newNetwork();
        network.begin(0, agent, kept);
        network.partCount = 1;
        return networkCount - 1;
    }

    public int addPart(int system, int agent, int kept)
            throws IndexOutOfBoundsException, IllegalArgumentException, IllegalStateException {
        needSystem(system);
        needAgent(agent);
        needName(kept);
        Network network = networks[system];
        if (network.partCount >= MOST_PARTS) {
            throw new IllegalStateException("the system has 3 parts");
        }
        int part = network.partCount;
        network.begin(part, agent, kept);
        network.partCount = part + 1;
        return part;
    }

    public int setPart(int system, int part, int agent, int kept)
            throws IndexOutOfBoundsException, IllegalArgumentException {
        needPart(system, part);
        needAgent(agent);
        needName(kept);
        Network network = networks[system];
        int agentBefore = network.agents[part];
        network.begin(part, agent, kept);
        return agentBefore;
    }

    public boolean hide(int system, int name, boolean isHidden)
            throws IndexOutOfBoundsException, IllegalArgumentException {
        needSystem(system);
        needName(name);
        Network network = networks[system];
        boolean hiddenBefore = network.hidden[name];
        if (hiddenBefore != isHidden) {
            network.hidden[name] = isHidden;
            network.isFresh = false;
        }
        return hiddenBefore;
    }

    public int copy(int system) throws IndexOutOfBoundsException, IllegalStateException {
        needSystem(system);
        needRoomForSystem();
        newNetwork().takeOver(networks[system]);
        return networkCount - 1;
    }

    public int countParts(int system) throws IndexOutOfBoundsException {
        needSystem(system);
        return networks[system].partCount;
    }

    // ---- graphs

    public int countStates(int system) throws IndexOutOfBoundsException, ArithmeticException {
        return fittingGraph(system).stateCount;
    }

    public int countSteps(int system, int state) throws IndexOutOfBoundsException, ArithmeticException {
        needState(system, state);
        return fittingGraph(system).width(state);
    }

    public int getLabel(int system, int state, int step)
            throws IndexOutOfBoundsException, ArithmeticException, NoSuchElementException {
        int place = placeOfStep(system, state, step);
        return labelOf(fittingGraph(system).slotAt(place));
    }

    public int getTarget(int system, int state, int step)
            throws IndexOutOfBoundsException, ArithmeticException, NoSuchElementException {
        int place = placeOfStep(system, state, step);
        return fittingGraph(system).targetAt(place);
    }

    public int getAgent(int system, int state, int part) throws IndexOutOfBoundsException, ArithmeticException {
        return partIn(system, state, part) >> 2;
    }

    public int getKept(int system, int state, int part) throws IndexOutOfBoundsException, ArithmeticException {
        return partIn(system, state, part) & 3;
    }

    public int countStuck(int system) throws IndexOutOfBoundsException, ArithmeticException {
        return fittingGraph(system).stuckStates();
    }

    public boolean canChatter(int system) throws IndexOutOfBoundsException, ArithmeticException {
        return fittingGraph(system).chatters();
    }

    public boolean canShow(int system, int label)
            throws IndexOutOfBoundsException, IllegalArgumentException, ArithmeticException {
        needSystem(system);
        int slot = neededSlot(label);
        return fittingGraph(system).stepsWith(slot) > 0;
    }

    public int stepsToStuck(int system) throws IndexOutOfBoundsException, ArithmeticException {
        return fittingGraph(system).wayToStuck();
    }

    // ---- likeness and games

    public boolean isAlike(int system, int other, char kind)
            throws IndexOutOfBoundsException, IllegalArgumentException, ArithmeticException {
        needSystem(system);
        needSystem(other);
        needLikeness(kind, true);
        int second = laySideBySide(system, other);
        return kind == 't' ? traceWalk.sameRows(0, second) : refiner.settle(kind, 0, second) < 0;
    }

    public boolean areAlike(int system, int state, int other, char kind)
            throws IndexOutOfBoundsException, IllegalArgumentException, ArithmeticException {
        needState(system, state);
        needState(system, other);
        needLikeness(kind, true);
        laySideBySide(system, system);
        return kind == 't' ? traceWalk.sameRows(state, other) : refiner.settle(kind, state, other) < 0;
    }

    public int countClasses(int system, char kind)
            throws IndexOutOfBoundsException, IllegalArgumentException, ArithmeticException {
        needSystem(system);
        needLikeness(kind, false);
        laySideBySide(system, system);
        refiner.settle(kind, 0, 0);
        return refiner.blockCount;
    }

    public boolean simulates(int system, int other) throws IndexOutOfBoundsException, ArithmeticException {
        needSystem(system);
        needSystem(other);
        return pairGame.survives(fittingGraph(other), fittingGraph(system), false);
    }

    public int roundsApart(int system, int other) throws IndexOutOfBoundsException, ArithmeticException {
        needSystem(system);
        needSystem(other);
        int second = laySideBySide(system, other);
        return refiner.settle('s', 0, second);
    }

    public int firstStep(int system, int other)
            throws IndexOutOfBoundsException, ArithmeticException, NoSuchElementException {
        needSystem(system);
        needSystem(other);
        int second = laySideBySide(system, other);
        if (refiner.settle('s', 0, second) < 0) {
            throw new NoSuchElementException("the systems cannot be told apart");
        }
        int own = refiner.slotApart(fittingGraph(system), 0, fittingGraph(other), second);
        int others = refiner.slotApart(fittingGraph(other), second, fittingGraph(system), 0);
        return own <= others ? labelOf(own) : 1000 + labelOf(others);
    }

    public int countTraces(int system, int length)
            throws IndexOutOfBoundsException, IllegalArgumentException, ArithmeticException {
        needSystem(system);
        if (length < 1 || length > LONGEST_ROW) {
            throw new IllegalArgumentException("a length is from 1 to 5");
        }
        laySideBySide(system, system);
        return traceWalk.rowsOfLength(0, length);
    }

    // ---- formulas

    public int addNot(int formula) throws IndexOutOfBoundsException, IllegalStateException {
        needFormula(formula);
        return newFormula(FormulaBook.NOT, 0, formula, formula);
    }

    public int addBoth(int formula, int other) throws IndexOutOfBoundsException, IllegalStateException {
        needFormula(formula);
        needFormula(other);
        return newFormula(FormulaBook.BOTH, 0, formula, other);
    }

    public int addStep(char kind, int label, int formula)
            throws IndexOutOfBoundsException, IllegalArgumentException, IllegalStateException {
        needFormula(formula);
        if (kind != 'd' && kind != 'w') {
            throw new IllegalArgumentException("no such kind of step");
        }
        int slot = neededSlot(label);
        return newFormula(kind == 'd' ? FormulaBook.STEP : FormulaBook.WEAK_STEP, slot, formula, formula);
    }

    public int addReach(int formula) throws IndexOutOfBoundsException, IllegalStateException {
        needFormula(formula);
        return newFormula(FormulaBook.REACH, 0, formula, formula);
    }

    public int getDepth(int formula) throws IndexOutOfBoundsException {
        needFormula(formula);
        return formulas.depths[formula];
    }

    public boolean holds(int system, int formula) throws IndexOutOfBoundsException, ArithmeticException {
        needSystem(system);
        needFormula(formula);
        formulas.judge(fittingGraph(system), formula);
        return formulas.isTrue(formula, 0);
    }

    public int countHolding(int system, int formula) throws IndexOutOfBoundsException, ArithmeticException {
        needSystem(system);
        needFormula(formula);
        formulas.judge(fittingGraph(system), formula);
        return formulas.trueStates(formula);
    }

    public int tellingFormula(int system, int other)
            throws IndexOutOfBoundsException, ArithmeticException, NoSuchElementException {
        needSystem(system);
        needSystem(other);
        int formula = formulas.firstUnlike(fittingGraph(system), fittingGraph(other));
        if (formula < 0) {
            throw new NoSuchElementException("no formula tells the systems apart");
        }
        return formula;
    }

    // ---- testers and figures

    public boolean may(int system, int tester, int content) throws IndexOutOfBoundsException, ArithmeticException {
        putOnBench(system, tester, content);
        return bench.canContent();
    }

    public boolean must(int system, int tester, int content) throws IndexOutOfBoundsException, ArithmeticException {
        putOnBench(system, tester, content);
        return bench.alwaysContents();
    }

    public float silentShare(int system) throws IndexOutOfBoundsException, ArithmeticException {
        Network graph = fittingGraph(system);
        int all = graph.allSteps();
        if (all == 0) {
            throw new ArithmeticException("the system has no steps");
        }
        return (float) graph.stepsWith(0) / (float) all;
    }

    public double meanSteps(int system) throws IndexOutOfBoundsException, ArithmeticException {
        Network graph = fittingGraph(system);
        return (double) graph.allSteps() / (double) graph.stateCount;
    }

    public long checksum(int system) throws IndexOutOfBoundsException, ArithmeticException {
        return fittingGraph(system).sum();
    }

    public boolean isSound() {
        boolean result = true;
        for (int system = 0; system < networkCount; system++) {
            for (int other = system + 1; other < networkCount; other++) {
                if (isToCheck(system, other)) {
                    int second = laySideBySide(system, other);
                    result = result && (refiner.settle('s', 0, second) >= 0
                            || isAlikeOtherwise(networks[system], networks[other], second)
                            && traceWalk.sameRows(0, second));
                }
            }
        }
        return result;
    }

    // ---- what the calls share

    private void needAgent(int agent) {
        if (agent < 0 || agent >= equations.agentCount) {
            throw new IndexOutOfBoundsException("no such agent");
        }
    }

    private void needBranch(int agent, int branch) {
        needAgent(agent);
        if (branch < 0 || branch >= equations.branchCounts[agent]) {
            throw new IndexOutOfBoundsException("no such branch");
        }
    }

    private void needSystem(int system) {
        if (system < 0 || system >= networkCount) {
            throw new IndexOutOfBoundsException("no such system");
        }
    }

    private void needPart(int system, int part) {
        needSystem(system);
        if (part < 0 || part >= networks[system].partCount) {
            throw new IndexOutOfBoundsException("no such part");
        }
    }

    private void needState(int system, int state) {
        needSystem(system);
        Network graph = networks[system];
        builder.refresh(graph);
        if (state < 0 || graph.fits && state >= graph.stateCount) {
            throw new IndexOutOfBoundsException("no such state");
        }
    }

    private void needFormula(int formula) {
        if (formula < 0 || formula >= formulas.count) {
            throw new IndexOutOfBoundsException("no such formula");
        }
    }

    private void needName(int name) {
        if (name < 0 || name >= NAMES) {
            throw new IllegalArgumentException("a name is from 0 to 3");
        }
    }

    private void needLikeness(char kind, boolean withTraces) {
        if (kind != 's' && kind != 'w' && kind != 'b' && !(withTraces && kind == 't')) {
            throw new IllegalArgumentException("no such kind of likeness");
        }
    }

    private int neededSlot(int label) {
        int slot = slotOf(label);
        if (slot == NO_LABEL) {
            throw new IllegalArgumentException("no such label");
        }
        return slot;
    }

    private void needRoomForSystem() {
        if (networkCount >= MOST_SYSTEMS) {
            throw new IllegalStateException("there are 6 systems");
        }
    }

    private Network newNetwork() {
        Network network = new Network();
        networks[networkCount] = network;
        networkCount++;
        return network;
    }

    private int newFormula(int kind, int slot, int formula, int other) {
        int depth = 1 + Math.max(formulas.depths[formula], formulas.depths[other]);
        if (formulas.count >= MOST_FORMULAS || depth > MOST_DEPTH) {
            throw new IllegalStateException("there are 40 formulas, or it would be too deep");
        }
        return formulas.put(kind, slot, formula, other, depth);
    }

    private void forgetGraphs() {
        for (int system = 0; system < networkCount; system++) {
            networks[system].isFresh = false;
        }
    }

    private Network fittingGraph(int system) {
        needSystem(system);
        Network graph = networks[system];
        builder.refresh(graph);
        if (!graph.fits) {
            throw new ArithmeticException("more than 150 states");
        }
        return graph;
    }

    private int placeOfStep(int system, int state, int step) {
        needState(system, state);
        Network graph = fittingGraph(system);
        if (step < 0 || step >= graph.width(state)) {
            throw new NoSuchElementException("no such step");
        }
        return graph.start[state] + step;
    }

    private int partIn(int system, int state, int part) {
        needState(system, state);
        needPart(system, part);
        Network graph = fittingGraph(system);
        return graph.codes[state] >> graph.shiftOf(part) & 63;
    }

    /** Answers the number, beside the states of the system, of the other one's first state. */
    private int laySideBySide(int system, int other) {
        Network first = fittingGraph(system);
        Network second = fittingGraph(other);
        refiner.begin(first);
        return system == other ? 0 : refiner.join(second);
    }

    private void putOnBench(int system, int tester, int content) {
        needSystem(system);
        needSystem(tester);
        needAgent(content);
        Network tested = fittingGraph(system);
        Network testing = fittingGraph(tester);
        if (!bench.explore(tested, testing)) {
            throw new ArithmeticException("more than 600 states of both");
        }
        bench.markContent(testing, content);
    }

    private boolean isToCheck(int system, int other) {
        Network first = networks[system];
        Network second = networks[other];
        builder.refresh(first);
        builder.refresh(second);
        return first.fits && second.fits && first.stateCount + second.stateCount <= MOST_TO_CHECK;
    }

    /** The game is asked apart from the classes, though both refine alike: the document names both. */
    private boolean isAlikeOtherwise(Network first, Network second, int start) {
        return pairGame.survives(first, second, true)
                && refiner.settle('b', 0, start) < 0
                && refiner.settle('w', 0, start) < 0
                && refiner.settle('s', 0, start) < 0
                && formulas.firstUnlike(first, second) < 0;
    }

    // ---- numbers in rising order, like ones once

    /** The place, among so many numbers, of the first one that is not less. */
    private static int placeAmong(int[] numbers, int count, int number) {
        int low = 0;
        int high = count;
        for (int halvings = 0; halvings < 32 && low < high; halvings++) {
            int middle = low + high >> 1;
            if (numbers[middle] < number) {
                low = middle + 1;
            } else {
                high = middle;
            }
        }
        return low;
    }

    /** Answers how many there are then. */
    private static int putAmong(int[] numbers, int count, int number) {
        int place = placeAmong(numbers, count, number);
        if (place < count && numbers[place] == number || count >= numbers.length) {
            return count;
        }
        System.arraycopy(numbers, place, numbers, place + 1, count - place);
        numbers[place] = number;
        return count + 1;
    }

    // ---- labels and bits

    private static int slotOf(int label) {
        if (label == 0) {
            return 0;
        }
        if (label < 100 || label > 299) {
            return NO_LABEL;
        }
        int channel = label / 10 % 10;
        int name = label % 10;
        if (channel >= NAMES || name >= NAMES) {
            return NO_LABEL;
        }
        return (label < 200 ? FIRST_SENDING : FIRST_RECEIVING) + NAMES * channel + name;
    }

    private static int labelOf(int slot) {
        if (slot == 0) {
            return 0;
        }
        boolean isSending = slot < FIRST_RECEIVING;
        int names = slot - (isSending ? FIRST_SENDING : FIRST_RECEIVING);
        return (isSending ? 100 : 200) + 10 * (names >> 2) + (names & 3);
    }

    /** Counts the bits below the lowest one; the word must not be 0. */
    private static int lowestBit(long word) {
        return Long.bitCount((word & -word) - 1);
    }

    private static boolean hasBit(long[] words, int base, int bit) {
        return (words[base + (bit >> 6)] >>> (bit & 63) & 1) != 0;
    }

    private static void setBit(long[] words, int base, int bit) {
        words[base + (bit >> 6)] |= 1L << (bit & 63);
    }

    private static void clearBit(long[] words, int base, int bit) {
        words[base + (bit >> 6)] &= ~(1L << (bit & 63));
    }

    private static boolean isEmpty(long[] words, int base, int length) {
        for (int word = 0; word < length; word++) {
            if (words[base + word] != 0) {
                return false;
            }
        }
        return true;
    }

    /** Whether all bits of the inner words are in the outer ones. */
    private static boolean isWithin(long[] inner, int innerBase, long[] outer, int outerBase, int length) {
        for (int word = 0; word < length; word++) {
            if ((inner[innerBase + word] & ~outer[outerBase + word]) != 0) {
                return false;
            }
        }
        return true;
    }

    private static boolean meets(long[] one, int oneBase, long[] other, int otherBase, int length) {
        for (int word = 0; word < length; word++) {
            if ((one[oneBase + word] & other[otherBase + word]) != 0) {
                return true;
            }
        }
        return false;
    }

    private static void unite(long[] into, int intoBase, long[] from, int fromBase, int length) {
        for (int word = 0; word < length; word++) {
            into[intoBase + word] |= from[fromBase + word];
        }
    }

    private static boolean isSame(long[] one, int oneBase, long[] other, int otherBase, int length) {
        for (int word = 0; word < length; word++) {
            if (one[oneBase + word] != other[otherBase + word]) {
                return false;
            }
        }
        return true;
    }

    private static long mixed(long hash, long[] words, int base, int length) {
        long result = hash;
        for (int word = 0; word < length; word++) {
            result = (result ^ words[base + word]) * MIX;
            result ^= result >>> 32;
        }
        result *= MIX;
        return result ^ result >>> 29;
    }

    /** The agents and their branches, in rows of six. */
    private static final class Equations {
        final int[] branchCounts = new int[MOST_AGENTS];
        final char[] kinds = new char[MOST_AGENTS * MOST_BRANCHES];
        final int[] channels = new int[MOST_AGENTS * MOST_BRANCHES];
        final int[] values = new int[MOST_AGENTS * MOST_BRANCHES];
        final int[] nexts = new int[MOST_AGENTS * MOST_BRANCHES];
        int agentCount;

        int newAgent() {
            agentCount++;
            return agentCount - 1;
        }

        int newBranch(int agent, char kind, int channel, int value, int next) {
            int branch = branchCounts[agent];
            int place = agent * MOST_BRANCHES + branch;
            kinds[place] = kind;
            channels[place] = channel;
            values[place] = value;
            nexts[place] = next;
            branchCounts[agent] = branch + 1;
            return branch;
        }

        int takeAway(int agent, int branch) {
            int left = branchCounts[agent] - 1;
            int base = agent * MOST_BRANCHES;
            for (int at = base + branch; at < base + left; at++) {
                kinds[at] = kinds[at + 1];
                channels[at] = channels[at + 1];
                values[at] = values[at + 1];
                nexts[at] = nexts[at + 1];
            }
            branchCounts[agent] = left;
            return left;
        }

        int leadTo(int agent, int branch, int next) {
            int place = agent * MOST_BRANCHES + branch;
            int nextBefore = nexts[place];
            nexts[place] = next;
            return nextBefore;
        }

        /** The place behind an agent's last branch. */
        int endOf(int agent) {
            return agent * MOST_BRANCHES + branchCounts[agent];
        }

        int channelOf(int place, int kept) {
            return channels[place] == KEPT ? kept : channels[place];
        }

        int valueOf(int place, int kept) {
            return values[place] == KEPT ? kept : values[place];
        }

        boolean receives(int place, int name) {
            return kinds[place] == 'i' && (values[place] == KEPT || values[place] == name);
        }

        int keptAfter(int place, int kept, int name) {
            return values[place] == KEPT ? name : kept;
        }
    }

    /**
     * A system: its parts and hidden names; and, while it is fresh, its graph: the states with their codes,
     * and their steps in rows, each a slot and a target.
     */
    private static final class Network {
        final int[] agents = new int[MOST_PARTS];
        final int[] kept = new int[MOST_PARTS];
        final boolean[] hidden = new boolean[NAMES];
        int partCount;

        final int[] codes = new int[MOST_STATES];
        final int[] start = new int[MOST_STATES + 1];
        final int[] steps = new int[MOST_STATES * MOST_STEPS];
        private final int[] ways = new int[MOST_STATES];
        private final boolean[] isCalm = new boolean[MOST_STATES];
        int stateCount;
        private int rowCount;
        boolean fits;
        boolean isFresh;

        void begin(int part, int agent, int name) {
            agents[part] = agent;
            kept[part] = name;
            isFresh = false;
        }

        void takeOver(Network other) {
            for (int part = 0; part < other.partCount; part++) {
                begin(part, other.agents[part], other.kept[part]);
            }
            for (int name = 0; name < NAMES; name++) {
                hidden[name] = other.hidden[name];
            }
            partCount = other.partCount;
        }

        /** The first part stands highest, so that codes rise as the document compares states. */
        int shiftOf(int part) {
            return 6 * (partCount - 1 - part);
        }

        int firstCode() {
            int code = 0;
            for (int part = 0; part < partCount; part++) {
                code |= (agents[part] << 2 | kept[part]) << shiftOf(part);
            }
            return code;
        }

        void beginGraph(int code) {
            codes[0] = code;
            start[0] = 0;
            stateCount = 1;
            rowCount = 0;
            fits = true;
            isFresh = true;
        }

        void takeRow(int[] row, int count) {
            int at = start[rowCount];
            System.arraycopy(row, 0, steps, at, count);
            rowCount++;
            start[rowCount] = at + count;
        }

        int width(int state) {
            return start[state + 1] - start[state];
        }

        int slotAt(int place) {
            return steps[place] >> 8;
        }

        int targetAt(int place) {
            return steps[place] & 255;
        }

        int allSteps() {
            return start[stateCount];
        }

        /** The place of the state's first step with this slot or a higher one. */
        int placeFrom(int state, int slot) {
            int low = start[state];
            int high = start[state + 1];
            for (int halvings = 0; halvings < 32 && low < high; halvings++) {
                int middle = low + high >> 1;
                if (steps[middle] >> 8 < slot) {
                    low = middle + 1;
                } else {
                    high = middle;
                }
            }
            return low;
        }

        int stepsWith(int slot) {
            int result = 0;
            int end = allSteps();
            for (int place = 0; place < end; place++) {
                if (slotAt(place) == slot) {
                    result++;
                }
            }
            return result;
        }

        int stuckStates() {
            int result = 0;
            for (int state = 0; state < stateCount; state++) {
                if (width(state) == 0) {
                    result++;
                }
            }
            return result;
        }

        /** Strikes out the states whose silent steps all end: from what is left they go on for ever. */
        boolean chatters() {
            int calmStates = 0;
            boolean grew = true;
            for (int state = 0; state < stateCount; state++) {
                isCalm[state] = false;
            }
            for (int pass = 0; pass <= stateCount && grew; pass++) {
                grew = false;
                for (int state = stateCount - 1; state >= 0; state--) {
                    if (!isCalm[state] && leadsToCalm(state)) {
                        isCalm[state] = true;
                        calmStates++;
                        grew = true;
                    }
                }
            }
            return calmStates < stateCount;
        }

        private boolean leadsToCalm(int state) {
            for (int place = start[state]; place < start[state + 1] && slotAt(place) == 0; place++) {
                if (!isCalm[targetAt(place)]) {
                    return false;
                }
            }
            return true;
        }

        /** States are numbered by rising distance, so that the first stuck one is the nearest. */
        int wayToStuck() {
            Arrays.fill(ways, -1);
            ways[0] = 0;
            for (int state = 0; state < stateCount; state++) {
                if (width(state) == 0) {
                    return ways[state];
                }
                for (int place = start[state]; place < start[state + 1]; place++) {
                    int target = targetAt(place);
                    if (ways[target] < 0) {
                        ways[target] = ways[state] + 1;
                    }
                }
            }
            return -1;
        }

        long sum() {
            long result = 7;
            for (int state = 0; state < stateCount; state++) {
                result = 31 * result + width(state);
                for (int place = start[state]; place < start[state + 1]; place++) {
                    result = 31 * result + labelOf(slotAt(place));
                    result = 31 * result + targetAt(place);
                }
            }
            return result;
        }
    }

    /** Finds the states of a system and their steps. */
    private static final class Builder {
        private static final int CODE_BITS = 18;
        private static final int CODE_MASK = (1 << CODE_BITS) - 1;

        private final Equations equations;
        /** Codes with their numbers in the lowest 8 bits. */
        private final int[] numbers = new int[MOST_STATES];
        private int numberCount;
        /** Slots with codes: the order in which states are found. */
        private final int[] leads = new int[MOST_STEPS];
        private int leadCount;
        /** Slots with numbers: the order in which steps are told. */
        private final int[] row = new int[MOST_STEPS];
        private int rowCount;

        Builder(Equations equations) {
            this.equations = equations;
        }

        /** Builds the graph of a system, if anything was edited since it was built. */
        void refresh(Network network) {
            if (network.isFresh) {
                return;
            }
            int code = network.firstCode();
            network.beginGraph(code);
            numberCount = putAmong(numbers, 0, code << 8);
            for (int state = 0; state < MOST_STATES && state < network.stateCount && network.fits; state++) {
                leadCount = 0;
                for (int part = 0; part < network.partCount; part++) {
                    stepAlone(network, network.codes[state], network.shiftOf(part));
                    receiveAlone(network, network.codes[state], network.shiftOf(part));
                    for (int other = 0; other < network.partCount; other++) {
                        if (other != part) {
                            meet(network.codes[state], network.shiftOf(part), network.shiftOf(other));
                        }
                    }
                }
                numberLeads(network);
                if (network.fits) {
                    network.takeRow(row, rowCount);
                }
            }
        }

        private void numberLeads(Network graph) {
            rowCount = 0;
            for (int at = 0; at < leadCount && graph.fits; at++) {
                int code = leads[at] & CODE_MASK;
                int number = numberOf(code);
                if (number < 0 && graph.stateCount >= MOST_STATES) {
                    graph.fits = false;
                } else {
                    if (number < 0) {
                        number = graph.stateCount;
                        graph.codes[number] = code;
                        graph.stateCount++;
                        numberCount = putAmong(numbers, numberCount, code << 8 | number);
                    }
                    rowCount = putAmong(row, rowCount, leads[at] >> CODE_BITS << 8 | number);
                }
            }
        }

        private int numberOf(int code) {
            int place = placeAmong(numbers, numberCount, code << 8);
            if (place < numberCount && numbers[place] >> 8 == code) {
                return numbers[place] & 255;
            }
            return -1;
        }

        private void stepAlone(Network network, int code, int shift) {
            int agent = code >> shift + 2 & 15;
            int kept = code >> shift & 3;
            int end = equations.endOf(agent);
            for (int place = agent * MOST_BRANCHES; place < end; place++) {
                char kind = equations.kinds[place];
                int channel = equations.channelOf(place, kept);
                int name = equations.valueOf(place, kept);
                int after = changed(code, shift, equations.nexts[place], kept);
                if (kind == 't' || kind == 'e' && name == kept) {
                    leadCount = putAmong(leads, leadCount, after);
                } else if (kind == 'o' && !network.hidden[channel] && !network.hidden[name]) {
                    int slot = FIRST_SENDING + NAMES * channel + name;
                    leadCount = putAmong(leads, leadCount, slot << CODE_BITS | after);
                }
            }
        }

        private void receiveAlone(Network network, int code, int shift) {
            int agent = code >> shift + 2 & 15;
            int kept = code >> shift & 3;
            int end = equations.endOf(agent);
            for (int place = agent * MOST_BRANCHES; place < end; place++) {
                int channel = equations.channelOf(place, kept);
                for (int name = 0; name < NAMES; name++) {
                    if (!network.hidden[channel] && !network.hidden[name] && equations.receives(place, name)) {
                        int keptAfter = equations.keptAfter(place, kept, name);
                        int after = changed(code, shift, equations.nexts[place], keptAfter);
                        int slot = FIRST_RECEIVING + NAMES * channel + name;
                        leadCount = putAmong(leads, leadCount, slot << CODE_BITS | after);
                    }
                }
            }
        }

        /** Hidden names are passed on here as all others are. */
        private void meet(int code, int sender, int receiver) {
            int kept = code >> sender & 3;
            int keptThere = code >> receiver & 3;
            int sending = code >> sender + 2 & 15;
            int receiving = code >> receiver + 2 & 15;
            for (int place = sending * MOST_BRANCHES; place < equations.endOf(sending); place++) {
                int name = equations.valueOf(place, kept);
                int sent = changed(code, sender, equations.nexts[place], kept);
                int end = equations.kinds[place] == 'o' ? equations.endOf(receiving) : 0;
                for (int partner = receiving * MOST_BRANCHES; partner < end; partner++) {
                    if (equations.channelOf(place, kept) == equations.channelOf(partner, keptThere)
                            && equations.receives(partner, name)) {
                        int keptAfter = equations.keptAfter(partner, keptThere, name);
                        int after = changed(sent, receiver, equations.nexts[partner], keptAfter);
                        leadCount = putAmong(leads, leadCount, after);
                    }
                }
            }
        }

        private static int changed(int code, int shift, int agent, int kept) {
            return code & ~(63 << shift) | (agent << 2 | kept) << shift;
        }
    }

    /**
     * One graph, or two side by side, with the labels that occur numbered densely, the silent one 0. Parts the
     * states into blocks, round by round: after a round two states share a block if they did before and their
     * signs, the labels with the blocks that they come to, are the same.
     */
    private static final class Refiner {
        private static final int BUCKETS = 128;

        private final int[] start = new int[MOST_SIDE_BY_SIDE + 1];
        private final int[] steps = new int[MOST_SIDE_BY_SIDE * MOST_STEPS];
        private final int[] dense = new int[SLOTS];
        private int stateCount;
        int labelCount;
        /** How many words hold a bit for each state. */
        int words;
        final int[] blocks = new int[MOST_SIDE_BY_SIDE];
        private final int[] before = new int[MOST_SIDE_BY_SIDE];
        /** The first state of each block. */
        private final int[] models = new int[MOST_SIDE_BY_SIDE];
        private final int[] heads = new int[BUCKETS];
        private final int[] chain = new int[MOST_SIDE_BY_SIDE];
        private final int[] stack = new int[MOST_SIDE_BY_SIDE];
        private final long[] seen = new long[WIDE_WORDS];
        /** For each state and label the blocks that it comes to; after the last round, of the last blocks. */
        final long[] signs = new long[MOST_SIDE_BY_SIDE * SLOTS * WIDE_WORDS];
        /** For each state and label the states that it comes to with silent steps before and behind. */
        private final long[] reached = new long[MOST_SIDE_BY_SIDE * SLOTS * WIDE_WORDS];
        int blockCount;
        private int signWords;

        void begin(Network graph) {
            Arrays.fill(dense, -1);
            dense[0] = 0;
            labelCount = 1;
            stateCount = 0;
            start[0] = 0;
            join(graph);
        }

        /** Answers the number of the graph's first state. */
        int join(Network graph) {
            int offset = stateCount;
            int at = start[offset];
            for (int state = 0; state < graph.stateCount; state++) {
                for (int place = graph.start[state]; place < graph.start[state + 1]; place++) {
                    steps[at] = denseLabel(graph.slotAt(place)) << 9 | offset + graph.targetAt(place);
                    at++;
                }
                start[offset + state + 1] = at;
            }
            stateCount = offset + graph.stateCount;
            words = stateCount + 63 >> 6;
            return offset;
        }

        private int denseLabel(int slot) {
            if (dense[slot] < 0) {
                dense[slot] = labelCount;
                labelCount++;
            }
            return dense[slot];
        }

        private int labelAt(int place) {
            return steps[place] >> 9;
        }

        private int targetAt(int place) {
            return steps[place] & 511;
        }

        /** Answers the round that parts the two states; -1 if none does, then the last blocks stand. */
        int settle(char kind, int one, int other) {
            blockCount = 1;
            Arrays.fill(blocks, 0);
            signWords = labelCount * words;
            if (kind == 'w') {
                reachSilently();
                reachShowing();
            }
            for (int round = 1; round <= stateCount; round++) {
                int countBefore = blockCount;
                signAll(kind);
                numberBlocks();
                if (blocks[one] != blocks[other]) {
                    return round;
                }
                if (blockCount == countBefore) {
                    return -1;
                }
            }
            return -1;
        }

        int rowOf(int block, int label) {
            return models[block] * signWords + label * words;
        }

        /** The lowest slot of a step of one first state that the other one could not answer one round before. */
        int slotApart(Network asking, int askingOffset, Network answering, int answeringOffset) {
            for (int place = asking.start[0]; place < asking.start[1]; place++) {
                int slot = asking.slotAt(place);
                int block = before[askingOffset + asking.targetAt(place)];
                boolean answered = false;
                for (int answer = answering.start[0]; answer < answering.start[1] && !answered; answer++) {
                    answered = answering.slotAt(answer) == slot
                            && before[answeringOffset + answering.targetAt(answer)] == block;
                }
                if (!answered) {
                    return slot;
                }
            }
            return SLOTS;
        }

        private void signAll(char kind) {
            Arrays.fill(signs, 0, stateCount * signWords, 0L);
            for (int state = 0; state < stateCount; state++) {
                if (kind == 'w') {
                    signWeakly(state);
                } else if (kind == 'b') {
                    signBranching(state);
                } else {
                    signStrongly(state);
                }
            }
        }

        /** Numbers blocks by their first states, so that a round without a split leaves all numbers. */
        private void numberBlocks() {
            System.arraycopy(blocks, 0, before, 0, stateCount);
            Arrays.fill(heads, -1);
            blockCount = 0;
            for (int state = 0; state < stateCount; state++) {
                long hash = mixed(before[state], signs, state * signWords, signWords);
                int bucket = (int) (hash ^ hash >>> 32) & BUCKETS - 1;
                int block = heads[bucket];
                for (int tries = 0; tries < blockCount && block >= 0 && !isLikeModel(state, block); tries++) {
                    block = chain[block];
                }
                if (block < 0) {
                    block = blockCount;
                    blockCount++;
                    models[block] = state;
                    chain[block] = heads[bucket];
                    heads[bucket] = block;
                }
                blocks[state] = block;
            }
        }

        private boolean isLikeModel(int state, int block) {
            int model = models[block];
            return before[state] == before[model]
                    && isSame(signs, state * signWords, signs, model * signWords, signWords);
        }

        private void signStrongly(int state) {
            int base = state * signWords;
            for (int place = start[state]; place < start[state + 1]; place++) {
                setBit(signs, base + labelAt(place) * words, blocks[targetAt(place)]);
            }
        }

        private void signWeakly(int state) {
            int base = state * signWords;
            for (int label = 0; label < labelCount; label++) {
                int row = base + label * words;
                for (int word = 0; word < words; word++) {
                    long left = reached[row + word];
                    for (int turn = 0; turn < 64 && left != 0; turn++) {
                        setBit(signs, row, blocks[64 * word + lowestBit(left)]);
                        left &= left - 1;
                    }
                }
            }
        }

        /** Silent steps within the block may come first: they change nothing that can be told yet. */
        private void signBranching(int state) {
            int base = state * signWords;
            Arrays.fill(seen, 0L);
            setBit(seen, 0, state);
            stack[0] = state;
            int found = 1;
            for (int at = 0; at < found && at < stack.length; at++) {
                int here = stack[at];
                for (int place = start[here]; place < start[here + 1]; place++) {
                    int target = targetAt(place);
                    int label = labelAt(place);
                    if (label != 0 || blocks[target] != blocks[state]) {
                        setBit(signs, base + label * words, blocks[target]);
                    } else if (!hasBit(seen, 0, target)) {
                        setBit(seen, 0, target);
                        stack[found] = target;
                        found++;
                    }
                }
            }
        }

        private void reachSilently() {
            Arrays.fill(reached, 0, stateCount * signWords, 0L);
            for (int state = 0; state < stateCount; state++) {
                int row = state * signWords;
                setBit(reached, row, state);
                stack[0] = state;
                int found = 1;
                for (int at = 0; at < found && at < stack.length; at++) {
                    int here = stack[at];
                    int end = start[here + 1];
                    for (int place = start[here]; place < end && labelAt(place) == 0; place++) {
                        int target = targetAt(place);
                        if (!hasBit(reached, row, target)) {
                            setBit(reached, row, target);
                            stack[found] = target;
                            found++;
                        }
                    }
                }
            }
        }

        private void reachShowing() {
            for (int state = 0; state < stateCount; state++) {
                int base = state * signWords;
                for (int word = 0; word < words; word++) {
                    long left = reached[base + word];
                    for (int turn = 0; turn < 64 && left != 0; turn++) {
                        addShown(base, 64 * word + lowestBit(left));
                        left &= left - 1;
                    }
                }
            }
        }

        private void addShown(int base, int between) {
            for (int place = start[between]; place < start[between + 1]; place++) {
                int label = labelAt(place);
                if (label != 0) {
                    int row = base + label * words;
                    unite(reached, row, reached, targetAt(place) * signWords, words);
                }
            }
        }
    }

    /**
     * The blocks, weakly alike, that one state comes to, on the left, and those that another one comes to, on the
     * right. Each has a seat there, so that a set of seats holds a pair of sets of blocks, one on each side.
     */
    private static final class Seats {
        private final Refiner refiner;
        private final int[] blockAt = new int[MOST_SIDE_BY_SIDE];
        private final int[] seatOf = new int[MOST_SIDE_BY_SIDE];
        /** For each seat and label the seats on its side that it comes to, with silent steps before and behind. */
        final long[] rows = new long[MOST_SIDE_BY_SIDE * SLOTS * WIDE_WORDS];
        /** The seats on the left, and behind them those on the right. */
        final long[] sides = new long[2 * WIDE_WORDS];
        /** For each seat those that can show, step by step, whatever it can. */
        final long[] above = new long[MOST_SIDE_BY_SIDE * WIDE_WORDS];
        /** For each seat those that it is above. */
        final long[] below = new long[MOST_SIDE_BY_SIDE * WIDE_WORDS];
        /** Of those above, the ones on its own side; of some that are just alike the first one is above the others. */
        private final long[] covers = new long[MOST_SIDE_BY_SIDE * WIDE_WORDS];
        /** The seats that are such for any other one. */
        final long[] covering = new long[WIDE_WORDS];
        /** Of those above, the ones on the other side. */
        private final long[] across = new long[MOST_SIDE_BY_SIDE * WIDE_WORDS];
        /** For each seat a bit for each label that can be shown from it. */
        final long[] shown = new long[MOST_SIDE_BY_SIDE];
        private final long[] pending = new long[WIDE_WORDS];
        private final long[] able = new long[WIDE_WORDS];
        int count;
        int leftCount;
        /** How many words hold a bit for each seat. */
        int words;
        int rowWords;

        Seats(Refiner refiner) {
            this.refiner = refiner;
        }

        /** Seats what one block comes to on the left and, if there is another one, what that comes to on the right. */
        void take(int one, int other) {
            count = 0;
            gather(one);
            leftCount = count;
            if (other >= 0) {
                gather(other);
            }
            words = count + 63 >> 6;
            rowWords = refiner.labelCount * words;
            Arrays.fill(rows, 0, count * rowWords, 0L);
            Arrays.fill(sides, 0L);
            fillRows(0, leftCount, 0);
            fillRows(leftCount, count, WIDE_WORDS);
            for (int seat = 0; seat < count; seat++) {
                shown[seat] = labelsAt(seat);
            }
            putTwinsAbove();
        }

        private void gather(int first) {
            int begin = count;
            Arrays.fill(seatOf, -1);
            seat(first);
            for (int at = begin; at < count && at < MOST_SIDE_BY_SIDE; at++) {
                Arrays.fill(able, 0L);
                for (int label = 1; label < refiner.labelCount; label++) {
                    unite(able, 0, refiner.signs, refiner.rowOf(blockAt[at], label), refiner.words);
                }
                for (int block = 0; block < refiner.blockCount; block++) {
                    if (hasBit(able, 0, block)) {
                        seat(block);
                    }
                }
            }
        }

        private void seat(int block) {
            if (seatOf[block] < 0 && count < MOST_SIDE_BY_SIDE) {
                seatOf[block] = count;
                blockAt[count] = block;
                count++;
            }
        }

        private void fillRows(int from, int end, int side) {
            for (int seat = from; seat < end; seat++) {
                seatOf[blockAt[seat]] = seat;
                setBit(sides, side, seat);
            }
            for (int seat = from; seat < end; seat++) {
                for (int label = 1; label < refiner.labelCount; label++) {
                    int sign = refiner.rowOf(blockAt[seat], label);
                    for (int target = from; target < end; target++) {
                        if (hasBit(refiner.signs, sign, blockAt[target])) {
                            setBit(rows, rowOf(seat, label), target);
                        }
                    }
                }
            }
        }

        int rowOf(int seat, int label) {
            return seat * rowWords + label * words;
        }

        /** Before the seats are in order each is above itself, and above the same block on the other side. */
        private void putTwinsAbove() {
            Arrays.fill(above, 0L);
            for (int seat = 0; seat < count; seat++) {
                for (int twin = 0; twin < count; twin++) {
                    if (blockAt[seat] == blockAt[twin]) {
                        setBit(above, seat * WIDE_WORDS, twin);
                    }
                }
            }
            sortOrder();
        }

        /** Strikes out, from above each seat, what cannot answer it, until no more is to be struck out. */
        void putInOrder() {
            Arrays.fill(above, 0L);
            Arrays.fill(pending, 0L);
            for (int seat = 0; seat < count; seat++) {
                setBit(pending, 0, seat);
            }
            for (int seat = 0; seat < count; seat++) {
                System.arraycopy(pending, 0, above, seat * WIDE_WORDS, WIDE_WORDS);
            }
            for (int pass = 0; pass <= count * count && !isEmpty(pending, 0, WIDE_WORDS); pass++) {
                for (int seat = 0; seat < count; seat++) {
                    if (hasBit(pending, 0, seat)) {
                        clearBit(pending, 0, seat);
                        narrowBehind(seat);
                    }
                }
            }
            sortOrder();
        }

        private void sortOrder() {
            Arrays.fill(below, 0L);
            Arrays.fill(covers, 0L);
            Arrays.fill(covering, 0L);
            Arrays.fill(across, 0L);
            for (int seat = 0; seat < count; seat++) {
                for (int higher = 0; higher < count; higher++) {
                    if (hasBit(above, seat * WIDE_WORDS, higher)) {
                        boolean isAlike = hasBit(above, higher * WIDE_WORDS, seat);
                        setBit(below, higher * WIDE_WORDS, seat);
                        if (seat < leftCount != higher < leftCount) {
                            setBit(across, seat * WIDE_WORDS, higher);
                        } else if (!isAlike || higher < seat) {
                            setBit(covers, seat * WIDE_WORDS, higher);
                            setBit(covering, 0, higher);
                        }
                    }
                }
            }
        }

        /** What is above a seat that comes to the target must come, by the same label, to what is above that. */
        private void narrowBehind(int target) {
            for (int label = 1; label < refiner.labelCount; label++) {
                Arrays.fill(able, 0L);
                for (int seat = 0; seat < count; seat++) {
                    if (meets(rows, rowOf(seat, label), above, target * WIDE_WORDS, words)) {
                        setBit(able, 0, seat);
                    }
                }
                for (int seat = 0; seat < count; seat++) {
                    int row = seat * WIDE_WORDS;
                    if (hasBit(rows, rowOf(seat, label), target) && !isWithin(above, row, able, 0, WIDE_WORDS)) {
                        for (int word = 0; word < WIDE_WORDS; word++) {
                            above[row + word] &= able[word];
                        }
                        setBit(pending, 0, seat);
                    }
                }
            }
        }

        /** Writes, for each label but the silent one, the set that is come to from a set. */
        void follow(long[] sets, int base, long[] into) {
            Arrays.fill(into, 0, rowWords, 0L);
            for (int word = 0; word < words; word++) {
                long left = sets[base + word];
                for (int turn = 0; turn < 64 && left != 0; turn++) {
                    unite(into, words, rows, rowOf(64 * word + lowestBit(left), 1), rowWords - words);
                    left &= left - 1;
                }
            }
        }

        private long labelsAt(int seat) {
            long result = 0;
            for (int label = 1; label < refiner.labelCount; label++) {
                if (!isEmpty(rows, rowOf(seat, label), words)) {
                    result |= 1L << label;
                }
            }
            return result;
        }

        /** Whether the set can do without the seat. */
        boolean isBeneath(int seat, long[] sets, int base) {
            return meets(covers, seat * WIDE_WORDS, sets, base, words);
        }

        /** Whether each seat of a set has one of the set above it on the other side: both sides have the same rows. */
        boolean isBalanced(long[] set) {
            for (int word = 0; word < words; word++) {
                long left = set[word];
                for (int turn = 0; turn < 64 && left != 0; turn++) {
                    if (!meets(across, (64 * word + lowestBit(left)) * WIDE_WORDS, set, 0, words)) {
                        return false;
                    }
                    left &= left - 1;
                }
            }
            return true;
        }
    }

    /** Follows rows of shown labels through sets of blocks, from one state or from two. */
    private static final class TraceWalk {
        /** So many pairs are looked at without an order of the seats, which is dear. */
        private static final int FEW_PAIRS = 64;
        /** So many are kept before another manner is tried. */
        private static final int SOME_PAIRS = 1 << 12;
        /** So many, the first ones, are looked through for what they tell together. */
        private static final int MANY_PAIRS = 1 << 15;
        /** So many looks at these may be in vain in a go. */
        private static final long FEW_LOOKS = 1L << 26;
        /** So many looks a dispute may take that comes before pairs have had all the room, and one that comes then. */
        private static final long SHORT_DISPUTE = 1L << 28;
        private static final long LONG_DISPUTE = 1L << 32;
        private static final long MOST_APART = 1L << 50;
        /** Ages would pass before. */
        private static final long MOST_GOES = 1L << 60;

        /** The manners of a search, one behind the other, each for what the one before has no room for. */
        private static final int UNORDERED = 0;
        private static final int ORDERED = 1;
        private static final int ROOMY = 2;
        private static final int FORGETFUL = 3;

        private final Refiner refiner;
        private final Seats seats;
        private final long[] after = new long[SLOTS * WIDE_WORDS];
        private final long[] here = new long[WIDE_WORDS];
        private final long[] grown = new long[WIDE_WORDS];
        private long[] next = new long[WIDE_WORDS];
        private long[] fresh = new long[WIDE_WORDS];
        private boolean hasNext;
        private int manner;
        private int mostPairs;
        private long looks;
        /** How far apart milestones are. */
        private long apart;
        /** How many more milestones than other pairs were kept in this go. */
        private int milestonesAhead;
        /** Of the pairs that are kept, the first ones, so many have been looked at. */
        private int looked;
        /** How often the search began anew, and how many goes may still forget before it does so again. */
        private long beginnings;
        private long goesLeft;
        /** Whether no pair was left out, since the beginning, that had not been looked at. */
        private boolean isWhole;
        /** The pairs of a go; or the sets of a level of rows, and in the other table those of the next one. */
        private final SetTable kept = new SetTable(SetTable.MOST_PLACES);
        private final SetTable keptOther = new SetTable(SetTable.MANY_PLACES);
        private final Dispute dispute;

        TraceWalk(Refiner refiner) {
            this.refiner = refiner;
            seats = new Seats(refiner);
            dispute = new Dispute(refiner, seats, kept, keptOther);
        }

        /**
         * Looks at the pairs of sets to which rows of labels lead, in goes: each ends when all that are kept have
         * been looked at, or when there is no room to keep more.
         */
        boolean sameRows(int one, int other) {
            refiner.settle('w', 0, 0);
            if (refiner.blocks[one] == refiner.blocks[other]) {
                return true;
            }
            seats.take(refiner.blocks[one], refiner.blocks[other]);
            manner = UNORDERED;
            mostPairs = FEW_PAIRS;
            apart = 1;
            beginnings = 0;
            kept.count = 0;
            for (long go = 0; go < MOST_GOES; go++) {
                if (kept.count == 0) {
                    beginAnew();
                }
                looks = FEW_LOOKS;
                milestonesAhead = 0;
                for (int at = looked; at < kept.count && at <= mostPairs && hasRoom(); at++) {
                    System.arraycopy(kept.sets, at * seats.words, here, 0, seats.words);
                    if (comesApart()) {
                        return false;
                    }
                    looked = hasRoom() ? at + 1 : at;
                }
                if (hasRoom() && isWhole) {
                    return true;
                }
                if (callsForDispute()) {
                    int verdict = dispute.decide(looksOfDispute());
                    if (verdict != Dispute.OPEN) {
                        return verdict == Dispute.HOLDS;
                    }
                    changeManner();
                } else {
                    makeRoom(go);
                }
            }
            return true;
        }

        /**
         * Claims need far less room than pairs do where most of these have several ways on; on long ways far more. A
         * forgetful search gives way to a dispute now and then, when it would begin anew anyhow.
         */
        private boolean callsForDispute() {
            if (manner == FORGETFUL) {
                return goesLeft == 0 && (beginnings & beginnings - 1) == 0;
            }
            return manner != UNORDERED && milestonesAhead < 0;
        }

        private long looksOfDispute() {
            if (manner == FORGETFUL) {
                return LONG_DISPUTE * beginnings;
            }
            return manner == ORDERED ? SHORT_DISPUTE : LONG_DISPUTE;
        }

        private void beginAnew() {
            beginnings++;
            goesLeft = beginnings & -beginnings;
            looked = 0;
            isWhole = true;
            kept.begin(seats.words, 0);
            Arrays.fill(fresh, 0L);
            setBit(fresh, 0, 0);
            setBit(fresh, 0, seats.leftCount);
            kept.put(fresh, 0);
        }

        private boolean hasRoom() {
            return kept.count <= mostPairs && !kept.isFull;
        }

        /** Where most kept pairs are milestones, fewer of these are enough. */
        private void makeRoom(long go) {
            if (manner == UNORDERED) {
                manner = ORDERED;
                mostPairs = SOME_PAIRS;
                seats.putInOrder();
                kept.count = 0;
            } else if (manner == FORGETFUL) {
                forget(go);
            } else {
                thinOut();
            }
        }

        /** After a dispute, in which nothing of the search is kept: with all the room there is, and then forgetful. */
        private void changeManner() {
            manner = manner == ORDERED ? ROOMY : FORGETFUL;
            mostPairs = SetTable.MOST_PLACES;
            apart = 1;
            kept.count = 0;
        }

        /** What has been looked at need not be kept; but milestones tell where a way comes to what was walked before. */
        private void thinOut() {
            apart = Math.min(MOST_APART, 8 * apart);
            looked = kept.thinOut(looked, beginnings, apart - 1);
            if (kept.count > mostPairs / 2 || kept.isCrowded()) {
                kept.count = 0;
            }
        }

        /**
         * Leaves out what has been looked at and, where it must be, half of the others: then the search can still
         * find a row that tells the two apart, but hardly ever that there is none. As it could stray to where there
         * is no such row, it begins anew, now soon, now late.
         */
        private void forget(long go) {
            kept.thinOut(looked, go, -1);
            looked = 0;
            if (kept.isCrowded()) {
                kept.thinOut(kept.count, go, 1);
                isWhole = false;
            }
            goesLeft--;
            if (goesLeft < 0) {
                kept.count = 0;
            }
        }

        /**
         * Walks on from a pair and keeps, where there are several ways on, all of them but one. The walk ends at a
         * milestone, which is kept, or where none is met for long: else it could go round for ever, or walk the same
         * way too often.
         */
        private boolean comesApart() {
            int words = seats.words;
            long mostSteps = 4 * apart;
            boolean walks = true;
            for (long step = 1; step <= mostSteps && walks && hasRoom(); step++) {
                seats.follow(here, 0, after);
                hasNext = false;
                for (int label = 1; label < refiner.labelCount; label++) {
                    boolean isOnLeft = meets(after, label * words, seats.sides, 0, words);
                    if (isOnLeft != meets(after, label * words, seats.sides, WIDE_WORDS, words)) {
                        return true;
                    }
                    if (isOnLeft && isNew(label * words) && isFork()) {
                        kept.put(fresh, 0);
                        milestonesAhead--;
                    }
                }
                boolean isMilestone = (mixed(beginnings, next, 0, words) & apart - 1) == 0;
                walks = hasNext && step < mostSteps && !isMilestone;
                if (walks) {
                    System.arraycopy(next, 0, here, 0, words);
                } else if (hasNext) {
                    kept.put(next, 0);
                    milestonesAhead += isMilestone ? 1 : -1;
                }
            }
            return false;
        }

        /** Of two ways on the fresh one is for later: which one that is should not be the labels' choice. */
        private boolean isFork() {
            boolean hadNext = hasNext;
            if (!hadNext || mixed(beginnings, fresh, 0, seats.words) > mixed(beginnings, next, 0, seats.words)) {
                long[] swapped = next;
                next = fresh;
                fresh = swapped;
                hasNext = true;
            }
            return hadNext;
        }

        /** Makes the pair behind a label, without seats that are beneath others; whether it has still to be looked at. */
        private boolean isNew(int row) {
            boolean isCovered = meets(after, row, seats.covering, 0, seats.words);
            for (int word = 0; word < seats.words; word++) {
                long left = after[row + word];
                fresh[word] = left;
                for (int turn = 0; turn < 64 && left != 0 && isCovered; turn++) {
                    if (seats.isBeneath(64 * word + lowestBit(left), after, row)) {
                        fresh[word] &= ~(left & -left);
                    }
                    left &= left - 1;
                }
            }
            if (seats.isBalanced(fresh) || hasNext && isSame(fresh, 0, next, 0, seats.words) || kept.has(fresh)) {
                return false;
            }
            return looks <= 0 || !growsOver(0) || !growsOver(WIDE_WORDS);
        }

        /**
         * Whether one side of the fresh pair grows over the other one: what holds one side of a kept pair has the
         * same rows with the other side added, if all kept pairs have the same rows on both sides.
         */
        private boolean growsOver(int side) {
            int toLookAt = Math.min(kept.count, MANY_PAIRS);
            long looksBefore = looks;
            Arrays.fill(grown, 0L);
            addBelow(fresh, 0, side);
            boolean holds = isWithin(fresh, 0, grown, 0, seats.words);
            boolean grew = true;
            for (int pass = 0; pass <= MOST_SIDE_BY_SIDE && grew && !holds && looks > 0; pass++) {
                grew = false;
                for (int at = 0; at < toLookAt && !holds; at++) {
                    int otherSide = sideToAdd(at * seats.words);
                    if (otherSide >= 0) {
                        addBelow(kept.sets, at * seats.words, otherSide);
                        grew = true;
                        holds = isWithin(fresh, 0, grown, 0, seats.words);
                    }
                }
                looks -= toLookAt;
            }
            if (holds) {
                looks = looksBefore;
            }
            return holds;
        }

        /** The side of a kept pair that is not held yet, if just the other one is; otherwise -1. */
        private int sideToAdd(int base) {
            long left = 0;
            long right = 0;
            for (int word = 0; word < seats.words; word++) {
                long missing = kept.sets[base + word] & ~grown[word];
                left |= missing & seats.sides[word];
                right |= missing & seats.sides[WIDE_WORDS + word];
            }
            if ((left == 0) == (right == 0)) {
                return -1;
            }
            return left == 0 ? WIDE_WORDS : 0;
        }

        private void addBelow(long[] sets, int base, int side) {
            for (int word = 0; word < seats.words; word++) {
                long left = sets[base + word] & seats.sides[side + word];
                for (int turn = 0; turn < 64 && left != 0; turn++) {
                    unite(grown, 0, seats.below, (64 * word + lowestBit(left)) * WIDE_WORDS, seats.words);
                    left &= left - 1;
                }
            }
        }

        /** Each row of labels comes to just one set, so that rows are counted by sets. */
        int rowsOfLength(int state, int length) {
            refiner.settle('w', 0, 0);
            seats.take(refiner.blocks[state], -1);
            if (length == 1) {
                return Long.bitCount(seats.shown[0]);
            }
            Arrays.fill(fresh, 0L);
            setBit(fresh, 0, 0);
            SetTable level = kept;
            SetTable nextLevel = keptOther;
            level.begin(seats.words, 1);
            level.add(fresh, 0, 1);
            for (int done = 2; done < length; done++) {
                goOn(level, nextLevel);
                SetTable swapped = level;
                level = nextLevel;
                nextLevel = swapped;
            }
            return rowsBehind(level);
        }

        private void goOn(SetTable level, SetTable nextLevel) {
            int words = seats.words;
            nextLevel.begin(words, 1);
            for (int at = 0; at < level.count; at++) {
                int base = at * (words + 1);
                seats.follow(level.sets, base, after);
                for (int label = 1; label < refiner.labelCount; label++) {
                    if (!isEmpty(after, label * words, words)) {
                        nextLevel.add(after, label * words, level.sets[base + words]);
                    }
                }
            }
        }

        /** The last two labels need no sets to be kept. */
        private int rowsBehind(SetTable level) {
            int result = 0;
            for (int at = 0; at < level.count; at++) {
                int base = at * (seats.words + 1);
                seats.follow(level.sets, base, after);
                for (int label = 1; label < refiner.labelCount; label++) {
                    result += (int) level.sets[base + seats.words] * labelsOf(label * seats.words);
                }
            }
            return result;
        }

        /** How many labels can be shown next from a set. */
        private int labelsOf(int row) {
            long labels = 0;
            for (int word = 0; word < seats.words; word++) {
                long left = after[row + word];
                for (int turn = 0; turn < 64 && left != 0; turn++) {
                    labels |= seats.shown[64 * word + lowestBit(left)];
                    left &= left - 1;
                }
            }
            return Long.bitCount(labels);
        }
    }

    /**
     * A dispute over claims, each that what one seat can show the seats of a set can show, too. A claim calls for
     * others: for each seat to which its own one comes by a label one on what the set comes to. A denial speaks
     * against claims: it has the most seats that cannot show, even together, all that a seat can. A claim is made on
     * as few seats of those there are as denials allow. Claims stand if all that they call for stands.
     */
    private static final class Dispute {
        static final int OPEN = 0;
        static final int HOLDS = 1;
        static final int FAILS = 2;
        /** Ages would pass before. */
        private static final long MOST_TURNS = 1L << 60;
        private static final int NOTHING = 0;
        /** As what answers: no claim, but a seat that is above. */
        private static final int ABOVE = -1;
        /** In a chain: what was taken out of it. */
        private static final int OUT = -1;
        /** All that a claim calls for is there. */
        private static final long CALM = -1L;

        private final Refiner refiner;
        private final Seats seats;
        /**
         * Rows of a seat, a set, the next row in the chain of the seat, a bit for each seat to which that one comes
         * if what the claim calls for there was found, and a bit for each claim that was found. One bit stands for
         * several seats or claims: then too much is looked for again, and never too little.
         */
        private final SetTable claims;
        /** Rows of a seat, a set, and the next row in the chain of the seat. */
        private final SetTable denials;
        /** Chains have numbers of rows, 1 more each, 0 at their ends. */
        private final int[] firstClaims = new int[MOST_SIDE_BY_SIDE];
        private final int[] firstDenials = new int[MOST_SIDE_BY_SIDE];
        /** For each label the seats that can show it. */
        private final long[] able = new long[SLOTS * WIDE_WORDS];
        /** For each seat those that it comes to, by whatever label. */
        private final long[] ahead = new long[MOST_SIDE_BY_SIDE * WIDE_WORDS];
        private final long[] after = new long[SLOTS * WIDE_WORDS];
        /** The row that is being made. */
        private final long[] made = new long[1 + WIDE_WORDS];
        private int words;
        private long looks;

        Dispute(Refiner refiner, Seats seats, SetTable claims, SetTable denials) {
            this.refiner = refiner;
            this.seats = seats;
            this.claims = claims;
            this.denials = denials;
        }

        /** Whether both sides can show the same rows; open, if there is no room to tell, or if it takes too many looks. */
        int decide(long mostLooks) {
            begin();
            looks = mostLooks;
            int verdict = verdictOn(0, seats.leftCount);
            return verdict == HOLDS ? verdictOn(seats.leftCount, 0) : verdict;
        }

        private void begin() {
            words = seats.words;
            claims.begin(1 + words, 3);
            denials.begin(1 + words, 1);
            Arrays.fill(firstClaims, 0);
            Arrays.fill(firstDenials, 0);
            Arrays.fill(able, 0L);
            Arrays.fill(ahead, 0L);
            for (int seat = 0; seat < seats.count; seat++) {
                for (int label = 1; label < refiner.labelCount; label++) {
                    int row = seats.rowOf(seat, label);
                    unite(ahead, seat * WIDE_WORDS, seats.rows, row, words);
                    if (!isEmpty(seats.rows, row, words)) {
                        setBit(able, label * words, seat);
                    }
                }
            }
        }

        /** Claims are checked round and round until none is to be checked again, or the first one is denied. */
        private int verdictOn(int seat, int other) {
            made[0] = seat;
            Arrays.fill(made, 1, 1 + words, 0L);
            setBit(made, 1, other);
            if (answerTo(seat, made, 1) != NOTHING) {
                return HOLDS;
            }
            if (against(seat, made, 1) != NOTHING) {
                return FAILS;
            }
            int first = claims.put(made, 0);
            if (first < 0) {
                return OPEN;
            }
            chain(claims, firstClaims, first);
            int at = first;
            int calm = 0;
            for (long turn = 0; turn < MOST_TURNS && calm < claims.count; turn++) {
                if (looks < 0 || claims.isFull || denials.isFull) {
                    return OPEN;
                }
                if (claims.sets[first * claims.stride + words + 1] == OUT) {
                    return FAILS;
                }
                int row = at * claims.stride + words + 1;
                calm++;
                if (claims.sets[row] != OUT && claims.sets[row + 1] != CALM) {
                    check(at);
                    calm = 0;
                }
                at = at + 1 < claims.count ? at + 1 : 0;
            }
            return HOLDS;
        }

        /** Makes the claims that one calls for, or denies it, if one of these is denied. */
        private void check(int number) {
            int row = number * claims.stride;
            int seat = (int) claims.sets[row];
            int bits = row + words + 2;
            long calm = claims.sets[bits];
            looks -= seats.rowWords;
            seats.follow(claims.sets, row + 1, after);
            claims.sets[bits] = CALM;
            for (int label = 1; label < refiner.labelCount; label++) {
                int set = label * words;
                for (int word = 0; word < words; word++) {
                    long left = seats.rows[seats.rowOf(seat, label) + word];
                    for (int turn = 0; turn < 64 && left != 0; turn++) {
                        int target = 64 * word + lowestBit(left);
                        left &= left - 1;
                        int answer = (calm >>> target & 1) != 0 ? ABOVE : answerTo(target, after, set);
                        int reason = answer != NOTHING ? NOTHING : against(target, after, set);
                        if (reason != NOTHING) {
                            makeDenial(seat, label, reason);
                            deny(denials.put(made, 0));
                            return;
                        }
                        if (answer == NOTHING) {
                            makeClaim(target, set);
                            answer = 1 + claims.put(made, 0);
                            chain(claims, firstClaims, answer - 1);
                        }
                        if (answer > 0) {
                            claims.sets[bits + 1] |= 1L << answer;
                        }
                    }
                }
            }
        }

        /**
         * The number of a claim on the seat and some of the set, 1 more, if there is one, unless a seat of the set is
         * above. The claim is put first in its chain, since it will soon be asked for again.
         */
        private int answerTo(int seat, long[] sets, int base) {
            if (meets(seats.above, seat * WIDE_WORDS, sets, base, words)) {
                return ABOVE;
            }
            int before = -1;
            int claim = firstClaims[seat];
            for (int turn = 0; turn < claims.count && claim > 0; turn++) {
                int row = (claim - 1) * claims.stride;
                int next = row + words + 1;
                if (isWithin(claims.sets, row + 1, sets, base, words)) {
                    if (before >= 0) {
                        claims.sets[before] = claims.sets[next];
                        claims.sets[next] = firstClaims[seat];
                        firstClaims[seat] = claim;
                    }
                    return claim;
                }
                before = next;
                claim = (int) claims.sets[next];
                looks--;
            }
            return NOTHING;
        }

        /** What speaks against a claim: a label of the seat that the set cannot show, below 0, or a denial, 1 more. */
        private int against(int seat, long[] sets, int base) {
            for (int label = 1; label < refiner.labelCount; label++) {
                if ((seats.shown[seat] >>> label & 1) != 0 && !meets(able, label * words, sets, base, words)) {
                    return -label;
                }
            }
            int denial = firstDenials[seat];
            for (int turn = 0; turn < denials.count && denial > 0; turn++) {
                int row = (denial - 1) * denials.stride;
                if (isWithin(sets, base, denials.sets, row + 1, words)) {
                    return denial;
                }
                denial = (int) denials.sets[row + words + 1];
                looks--;
            }
            return NOTHING;
        }

        /** A claim on what was come to, without the seats that it can do without. */
        private void makeClaim(int seat, int set) {
            made[0] = seat;
            System.arraycopy(after, set, made, 1, words);
            for (int each = seats.count - 1; each >= 0; each--) {
                if (hasBit(made, 1, each)) {
                    clearBit(made, 1, each);
                    if (against(seat, made, 1) != NOTHING) {
                        setBit(made, 1, each);
                    }
                }
            }
        }

        /** The denial with all seats that come, by the label, to nothing but what the reason speaks against. */
        private void makeDenial(int seat, int label, int reason) {
            made[0] = seat;
            Arrays.fill(made, 1, 1 + words, 0L);
            for (int each = 0; each < seats.count; each++) {
                int row = seats.rowOf(each, label);
                boolean isHelpless = reason < 0
                        ? !meets(seats.rows, row, able, -reason * words, words)
                        : isWithin(seats.rows, row, denials.sets, (reason - 1) * denials.stride + 1, words);
                if (isHelpless) {
                    setBit(made, 1, each);
                }
            }
        }

        /** Claims that called for those that are taken out have to find others. */
        private void deny(int denial) {
            int seat = (int) made[0];
            takeOut(denials, firstDenials, seat);
            chain(denials, firstDenials, denial);
            long lost = takeOut(claims, firstClaims, seat);
            for (int each = 0; each < seats.count && lost != 0; each++) {
                if (hasBit(ahead, each * WIDE_WORDS, seat)) {
                    checkAgain(each, seat, lost);
                }
            }
        }

        private void checkAgain(int seat, int target, long lost) {
            int claim = firstClaims[seat];
            for (int turn = 0; turn < claims.count && claim > 0; turn++) {
                int next = (claim - 1) * claims.stride + words + 1;
                if ((claims.sets[next + 2] & lost) != 0) {
                    claims.sets[next + 1] &= ~(1L << target);
                }
                claim = (int) claims.sets[next];
                looks--;
            }
        }

        /** Puts a row, unless it was left out for want of room, into the chain of its seat. */
        private void chain(SetTable table, int[] firsts, int number) {
            if (number >= 0) {
                int row = number * table.stride;
                int seat = (int) table.sets[row];
                table.sets[row + words + 1] = firsts[seat];
                firsts[seat] = number + 1;
            }
        }

        /** Takes out of a chain all rows with sets within the one that is made; answers the bits of their numbers. */
        private long takeOut(SetTable table, int[] firsts, int seat) {
            long taken = 0;
            int before = -1;
            int number = firsts[seat];
            for (int turn = 0; turn < table.count && number > 0; turn++) {
                int row = (number - 1) * table.stride;
                int next = row + words + 1;
                int behind = (int) table.sets[next];
                if (!isWithin(table.sets, row + 1, made, 1, words)) {
                    before = next;
                } else {
                    taken |= 1L << number;
                    table.sets[next] = OUT;
                    if (before < 0) {
                        firsts[seat] = behind;
                    } else {
                        table.sets[before] = behind;
                    }
                }
                number = behind;
                looks--;
            }
            return taken;
        }
    }

    /** Sets of seats, like ones once, numbered from 0; each may have a weight behind its words. */
    private static final class SetTable {
        private static final int FIRST_PLACES = 1 << 8;
        /** Counting rows needs room for 32 labels three times. */
        static final int MANY_PLACES = 1 << 17;
        static final int MOST_PLACES = 1 << 20;

        private final int mostPlaces;
        /** Numbers of sets, 1 more each, by their hashes. */
        private int[] places = new int[FIRST_PLACES];
        /** Always three times as many words as places. */
        long[] sets = new long[3 * FIRST_PLACES];
        private int setWords;
        int stride;
        int count;
        /** Whether a set was left out for want of room. */
        boolean isFull;

        SetTable(int mostPlaces) {
            this.mostPlaces = mostPlaces;
        }

        void begin(int wordsOfSet, int wordsOfWeight) {
            setWords = wordsOfSet;
            stride = wordsOfSet + wordsOfWeight;
            count = 0;
            isFull = false;
            Arrays.fill(places, 0);
        }

        boolean has(long[] set) {
            return places[placeOf(set, 0)] > 0;
        }

        /** Answers the number of the set, -1 if it is left out. */
        int put(long[] from, int base) {
            if (!hasRoom() && widen()) {
                placeAll();
            }
            int place = placeOf(from, base);
            if (places[place] == 0) {
                if (!hasRoom()) {
                    isFull = true;
                    return -1;
                }
                System.arraycopy(from, base, sets, count * stride, setWords);
                Arrays.fill(sets, count * stride + setWords, (count + 1) * stride, 0L);
                count++;
                places[place] = count;
            }
            return places[place] - 1;
        }

        void add(long[] from, int base, long weight) {
            int number = put(from, base);
            if (number >= 0) {
                sets[number * stride + setWords] += weight;
            }
        }

        /** Some places stay free, so that sets are found soon. */
        private boolean hasRoom() {
            return count < places.length / 4 * 3 && (count + 1) * stride <= sets.length;
        }

        /** The place of a set like this one, or the free one where it belongs. */
        private int placeOf(long[] from, int base) {
            long hash = mixed(setWords, from, base, setWords);
            int mask = places.length - 1;
            int place = (int) (hash ^ hash >>> 32) & mask;
            for (int tries = 0; tries <= mask && places[place] > 0; tries++) {
                if (isSame(sets, (places[place] - 1) * stride, from, base, setWords)) {
                    return place;
                }
                place = place + 1 & mask;
            }
            return place;
        }

        /** Whether it could be done: then all sets are to be placed anew. */
        private boolean widen() {
            if (places.length >= mostPlaces) {
                return false;
            }
            int room = Math.min(8 * places.length, mostPlaces);
            sets = Arrays.copyOf(sets, 3 * room);
            places = new int[room];
            return true;
        }

        /** Gives each set its place; no two are like. */
        private void placeAll() {
            int mask = places.length - 1;
            Arrays.fill(places, 0);
            for (int number = 0; number < count; number++) {
                long hash = mixed(setWords, sets, number * stride, setWords);
                int place = (int) (hash ^ hash >>> 32) & mask;
                for (int tries = 0; tries <= mask && places[place] > 0; tries++) {
                    place = place + 1 & mask;
                }
                places[place] = number + 1;
            }
        }

        /** Leaves out, of the sets before one, all that are no milestones; answers how many of these stay. */
        int thinOut(int end, long salt, long mask) {
            int last = count;
            int stay = 0;
            count = 0;
            for (int number = 0; number < last; number++) {
                if (number >= end || (mixed(salt, sets, number * stride, setWords) & mask) == 0) {
                    System.arraycopy(sets, number * stride, sets, count * stride, stride);
                    count++;
                    stay += number < end ? 1 : 0;
                }
            }
            isFull = false;
            placeAll();
            return stay;
        }

        boolean isCrowded() {
            return 2 * count * stride > sets.length || 2 * count > places.length / 4 * 3;
        }
    }

    /** Pairs of a state of each of two graphs: those are struck out, one by one, that cannot answer a step. */
    private static final class PairGame {
        private static final int UNSEEN = 0;
        private static final int KEPT_PAIR = 1;
        private static final int STRUCK = 2;

        private final byte[] marks = new byte[MOST_STATES * MOST_STATES];
        private final int[] found = new int[MOST_STATES * MOST_STATES];
        private int foundCount;

        /** Whether the answering graph copies the asking one and, if both ways, the other way round too. */
        boolean survives(Network asking, Network answering, boolean bothWays) {
            forgetPairs();
            find(0, 0);
            for (int at = 0; at < foundCount && at < found.length; at++) {
                findBehind(asking, found[at] / MOST_STATES, answering, found[at] % MOST_STATES);
            }
            boolean struck = true;
            for (int pass = 0; pass <= foundCount && struck && marks[0] == KEPT_PAIR; pass++) {
                struck = false;
                for (int at = foundCount - 1; at >= 0; at--) {
                    if (marks[found[at]] == KEPT_PAIR && !stands(asking, answering, found[at], bothWays)) {
                        marks[found[at]] = STRUCK;
                        struck = true;
                    }
                }
            }
            return marks[0] == KEPT_PAIR;
        }

        private void forgetPairs() {
            for (int at = 0; at < foundCount; at++) {
                marks[found[at]] = UNSEEN;
            }
            foundCount = 0;
        }

        private void find(int one, int other) {
            int pair = one * MOST_STATES + other;
            if (marks[pair] == UNSEEN) {
                marks[pair] = KEPT_PAIR;
                found[foundCount] = pair;
                foundCount++;
            }
        }

        /** Only pairs behind like labels are ever asked for. */
        private void findBehind(Network asking, int one, Network answering, int other) {
            int end = answering.start[other + 1];
            for (int place = asking.start[one]; place < asking.start[one + 1]; place++) {
                int slot = asking.slotAt(place);
                int answer = answering.placeFrom(other, slot);
                for (; answer < end && answering.slotAt(answer) == slot; answer++) {
                    find(asking.targetAt(place), answering.targetAt(answer));
                }
            }
        }

        private boolean stands(Network asking, Network answering, int pair, boolean bothWays) {
            int one = pair / MOST_STATES;
            int other = pair % MOST_STATES;
            return answersAll(asking, one, answering, other, false)
                    && (!bothWays || answersAll(answering, other, asking, one, true));
        }

        private boolean answersAll(Network asking, int one, Network answering, int other, boolean turned) {
            for (int place = asking.start[one]; place < asking.start[one + 1]; place++) {
                if (!answers(asking.slotAt(place), asking.targetAt(place), answering, other, turned)) {
                    return false;
                }
            }
            return true;
        }

        private boolean answers(int slot, int target, Network answering, int other, boolean turned) {
            int end = answering.start[other + 1];
            int place = answering.placeFrom(other, slot);
            for (; place < end && answering.slotAt(place) == slot; place++) {
                int answer = answering.targetAt(place);
                int pair = turned ? answer * MOST_STATES + target : target * MOST_STATES + answer;
                if (marks[pair] == KEPT_PAIR) {
                    return true;
                }
            }
            return false;
        }
    }

    /** The formulas, and in which states of the graph that was asked last they hold. */
    private static final class FormulaBook {
        static final int TRUE = 0;
        static final int NOT = 1;
        static final int BOTH = 2;
        static final int STEP = 3;
        static final int WEAK_STEP = 4;
        static final int REACH = 5;
        private static final int WORK_ROW = MOST_FORMULAS * STATE_WORDS;

        private final int[] kinds = new int[MOST_FORMULAS];
        private final int[] slots = new int[MOST_FORMULAS];
        private final int[] ones = new int[MOST_FORMULAS];
        private final int[] others = new int[MOST_FORMULAS];
        final int[] depths = new int[MOST_FORMULAS];
        private final boolean[] isNeeded = new boolean[MOST_FORMULAS];
        private final boolean[] wasTrue = new boolean[MOST_FORMULAS];
        /** A row of bits for each formula, and one more to work on. */
        private final long[] truth = new long[(MOST_FORMULAS + 1) * STATE_WORDS];
        private int stateCount;
        /** The formula that is true everywhere, number 0, is there from the first. */
        int count = 1;

        int put(int kind, int slot, int one, int other, int depth) {
            kinds[count] = kind;
            slots[count] = slot;
            ones[count] = one;
            others[count] = other;
            depths[count] = depth;
            count++;
            return count - 1;
        }

        boolean isTrue(int formula, int state) {
            return hasBit(truth, formula * STATE_WORDS, state);
        }

        int trueStates(int formula) {
            int result = 0;
            for (int word = 0; word < STATE_WORDS; word++) {
                result += Long.bitCount(truth[formula * STATE_WORDS + word]);
            }
            return result;
        }

        /** A formula is made of earlier ones, so that rising numbers judge these first. */
        void judge(Network graph, int formula) {
            for (int each = 0; each < formula; each++) {
                isNeeded[each] = false;
            }
            isNeeded[formula] = true;
            for (int each = formula; each > 0; each--) {
                if (isNeeded[each]) {
                    isNeeded[ones[each]] = true;
                    isNeeded[others[each]] = true;
                }
            }
            for (int each = 0; each <= formula; each++) {
                if (isNeeded[each]) {
                    judgeOne(graph, each);
                }
            }
        }

        /** The lowest formula that just one of two first states holds, -1 if there is none. */
        int firstUnlike(Network first, Network second) {
            for (int formula = 0; formula < count; formula++) {
                judgeOne(first, formula);
                wasTrue[formula] = isTrue(formula, 0);
            }
            for (int formula = 0; formula < count; formula++) {
                judgeOne(second, formula);
                if (wasTrue[formula] != isTrue(formula, 0)) {
                    return formula;
                }
            }
            return -1;
        }

        private void judgeOne(Network graph, int formula) {
            stateCount = graph.stateCount;
            int row = formula * STATE_WORDS;
            int one = ones[formula] * STATE_WORDS;
            int other = others[formula] * STATE_WORDS;
            switch (kinds[formula]) {
                case TRUE:
                    Arrays.fill(truth, row, row + STATE_WORDS, 0L);
                    turn(row, row);
                    break;
                case NOT:
                    turn(one, row);
                    break;
                case BOTH:
                    for (int word = 0; word < STATE_WORDS; word++) {
                        truth[row + word] = truth[one + word] & truth[other + word];
                    }
                    break;
                case STEP:
                    stepBack(graph, slots[formula], one, row);
                    break;
                case WEAK_STEP:
                    System.arraycopy(truth, one, truth, row, STATE_WORDS);
                    spreadBack(graph, row, 0);
                    if (slots[formula] != 0) {
                        System.arraycopy(truth, row, truth, WORK_ROW, STATE_WORDS);
                        stepBack(graph, slots[formula], WORK_ROW, row);
                        spreadBack(graph, row, 0);
                    }
                    break;
                default:
                    System.arraycopy(truth, one, truth, row, STATE_WORDS);
                    spreadBack(graph, row, SLOTS);
                    break;
            }
        }

        private void turn(int from, int into) {
            for (int word = 0; word < STATE_WORDS; word++) {
                int states = Math.max(0, Math.min(64, stateCount - 64 * word));
                long all = states == 64 ? -1L : (1L << states) - 1;
                truth[into + word] = ~truth[from + word] & all;
            }
        }

        /** Writes the states with a step to a state of the other row. */
        private void stepBack(Network graph, int slot, int from, int into) {
            Arrays.fill(truth, into, into + STATE_WORDS, 0L);
            for (int state = 0; state < stateCount; state++) {
                if (stepsInto(graph, state, slot, slot, from)) {
                    setBit(truth, into, state);
                }
            }
        }

        /** Adds to a row the states that come into it by steps with slots up to the last one. */
        private void spreadBack(Network graph, int row, int lastSlot) {
            boolean grew = true;
            for (int pass = 0; pass <= stateCount && grew; pass++) {
                grew = false;
                for (int state = stateCount - 1; state >= 0; state--) {
                    if (!hasBit(truth, row, state) && stepsInto(graph, state, 0, lastSlot, row)) {
                        setBit(truth, row, state);
                        grew = true;
                    }
                }
            }
        }

        private boolean stepsInto(Network graph, int state, int firstSlot, int lastSlot, int row) {
            int end = graph.start[state + 1];
            int place = graph.placeFrom(state, firstSlot);
            for (; place < end && graph.slotAt(place) <= lastSlot; place++) {
                if (hasBit(truth, row, graph.targetAt(place))) {
                    return true;
                }
            }
            return false;
        }
    }

    /** A system and a tester beside each other: the states of both that can be come to. */
    private static final class Bench {
        /** For each pair of states its number, 1 more. */
        private final int[] numbers = new int[MOST_STATES * MOST_STATES];
        private final int[] pairs = new int[MOST_OF_BOTH];
        private final long[] leads = new long[MOST_OF_BOTH * BOTH_WORDS];
        private final boolean[] isContent = new boolean[MOST_OF_BOTH];
        private final boolean[] comesToContent = new boolean[MOST_OF_BOTH];
        private int count;
        private boolean fits;

        /** Whether there are not too many states. */
        boolean explore(Network tested, Network tester) {
            begin();
            numberOf(0, 0);
            for (int at = 0; at < count && at < MOST_OF_BOTH && fits; at++) {
                Arrays.fill(leads, at * BOTH_WORDS, (at + 1) * BOTH_WORDS, 0L);
                lookAround(at, tested, tester);
            }
            return fits;
        }

        void markContent(Network tester, int agent) {
            for (int at = 0; at < count; at++) {
                int code = tester.codes[pairs[at] % MOST_STATES];
                isContent[at] = false;
                for (int part = 0; part < tester.partCount; part++) {
                    if ((code >> tester.shiftOf(part) + 2 & 15) == agent) {
                        isContent[at] = true;
                    }
                }
            }
        }

        boolean canContent() {
            for (int at = 0; at < count; at++) {
                if (isContent[at]) {
                    return true;
                }
            }
            return false;
        }

        /** Grows from content states to those all of whose steps come to such: loops and ends stay out. */
        boolean alwaysContents() {
            boolean grew = true;
            for (int at = 0; at < count; at++) {
                comesToContent[at] = isContent[at];
            }
            for (int pass = 0; pass <= count && grew && !comesToContent[0]; pass++) {
                grew = false;
                for (int at = count - 1; at >= 0; at--) {
                    if (!comesToContent[at] && mustComeToContent(at)) {
                        comesToContent[at] = true;
                        grew = true;
                    }
                }
            }
            return comesToContent[0];
        }

        private boolean mustComeToContent(int at) {
            int base = at * BOTH_WORDS;
            for (int word = 0; word < BOTH_WORDS; word++) {
                long left = leads[base + word];
                for (int turn = 0; turn < 64 && left != 0; turn++) {
                    if (!comesToContent[64 * word + lowestBit(left)]) {
                        return false;
                    }
                    left &= left - 1;
                }
            }
            return !isEmpty(leads, base, BOTH_WORDS);
        }

        private void begin() {
            for (int at = 0; at < count; at++) {
                numbers[pairs[at]] = 0;
            }
            count = 0;
            fits = true;
        }

        /** The number of a pair of states, -1 if there are too many. */
        private int numberOf(int tested, int tester) {
            int pair = tested * MOST_STATES + tester;
            if (numbers[pair] == 0) {
                if (count >= MOST_OF_BOTH) {
                    fits = false;
                    return -1;
                }
                pairs[count] = pair;
                count++;
                numbers[pair] = count;
            }
            return numbers[pair] - 1;
        }

        private void putLead(int at, int tested, int tester) {
            int number = numberOf(tested, tester);
            if (number >= 0) {
                setBit(leads, at * BOTH_WORDS, number);
            }
        }

        private void lookAround(int at, Network tested, Network tester) {
            int one = pairs[at] / MOST_STATES;
            int other = pairs[at] % MOST_STATES;
            for (int place = tested.start[one]; place < tested.start[one + 1] && fits; place++) {
                int slot = tested.slotAt(place);
                if (slot == 0) {
                    putLead(at, tested.targetAt(place), other);
                } else {
                    meet(at, slot, tested.targetAt(place), tester, other);
                }
            }
            int end = tester.start[other + 1];
            for (int place = tester.start[other]; place < end && tester.slotAt(place) == 0 && fits; place++) {
                putLead(at, one, tester.targetAt(place));
            }
        }

        /** Sending meets receiving with the same names, and the other way round. */
        private void meet(int at, int slot, int target, Network tester, int other) {
            int partner = slot < FIRST_RECEIVING ? slot + SLOTS_OF_A_KIND : slot - SLOTS_OF_A_KIND;
            int end = tester.start[other + 1];
            int place = tester.placeFrom(other, partner);
            for (; place < end && tester.slotAt(place) == partner && fits; place++) {
                putLead(at, target, tester.targetAt(place));
            }
        }
    }
}
