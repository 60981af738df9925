import java.lang.management.ManagementFactory;
import java.util.HashMap;
import java.util.Map;

/** Yards at their limits, each made anew, and what is told of one behind a call that it refuses. */
final class Yards {
    static final Class<?> NO_INDEX = IndexOutOfBoundsException.class;
    static final Class<?> BAD_ARGUMENT = IllegalArgumentException.class;
    static final Class<?> NO_ROOM = IllegalStateException.class;
    static final Class<?> TOO_MANY = ArithmeticException.class;
    static final Class<?> NO_ELEMENT = java.util.NoSuchElementException.class;

    static final int LOW = Integer.MIN_VALUE;
    static final int HIGH = Integer.MAX_VALUE;
    static final int[] NO_NAME = {-1, 4, LOW, HIGH};

    /** In a full yard. */
    static final int[] NO_AGENT = {-1, 16, LOW, HIGH};
    static final int[] NO_SYSTEM = {-1, 6, LOW, HIGH};
    static final int[] NO_FORMULA = {-1, 40, LOW, HIGH};

    /** In a yard that is nearly full. */
    static final int[] NO_AGENT_YET = {-1, 15, LOW, HIGH};
    static final int[] NO_SYSTEM_YET = {-1, 5, LOW, HIGH};
    static final int[] NO_FORMULA_YET = {-1, 39, LOW, HIGH};

    /** The systems of both yards. */
    static final int SMALL = 0;
    static final int BIG = 1;
    static final int TOO_BIG = 2;
    static final int STOPPED = 3;
    static final int SHORTER = 4;

    static final Maker NEW = ObservantYard::new;
    static final Maker NEARLY_FULL = Yards::nearlyFull;
    static final Maker FULL = Yards::full;

    private static final Map<Maker, String> TOLD = new HashMap<>();

    private Yards() {
    }

    interface Maker {
        ObservantYard make();
    }

    interface Call {
        Object of(ObservantYard x);
    }

    /** How many bytes have been made so far, thrown away or not. */
    static long bytes() {
        com.sun.management.ThreadMXBean threads = (com.sun.management.ThreadMXBean) ManagementFactory.getThreadMXBean();
        return threads.getThreadAllocatedBytes(Thread.currentThread().getId());
    }

    static ObservantYard withAgents(int count) {
        ObservantYard x = new ObservantYard();
        for (int agent = 0; agent < count; agent++) {
            x.addAgent();
        }
        return x;
    }

    /**
     * 15 agents, 5 systems and 39 formulas; agent 14 has 5 branches. A part goes silently along agents 0 to 11,
     * receives one of three names along 0 and stops at 12. System BIG has 15 times 10 states, since its parts
     * cannot meet; TOO_BIG has one more, since its parts can, and only at first. Formula 8 is of depth 8.
     */
    private static ObservantYard nearlyFull() {
        ObservantYard x = withAgents(15);
        for (int agent = 0; agent < 11; agent++) {
            x.addBranch(agent, 't', 0, 0, agent + 1);
        }
        x.addBranch(11, 'i', 0, 4, 12);
        x.addBranch(0, 'o', 3, 0, 13);
        x.addBranch(14, 't', 0, 0, 6);
        x.addBranch(14, 'i', 3, 0, 13);
        for (int name = 0; name < 3; name++) {
            x.addBranch(14, 'e', name, name, 14);
        }
        x.addSystem(11, 0);
        hidingLast(x, 0, 5);
        x.addPart(BIG, 13, 1);
        hidingLast(x, 0, 14);
        x.addSystem(12, 2);
        hidingLast(x, 1, 5);
        for (int depth = 1; depth <= 8; depth++) {
            x.addNot(depth - 1);
        }
        x.addStep('d', 0, 0);
        x.addStep('w', 202, 0);
        x.addReach(9);
        x.addBoth(9, 10);
        for (int formula = 13; formula < 39; formula++) {
            x.addStep('d', 200 + formula % 3, 0);
        }
        return x;
    }

    private static void hidingLast(ObservantYard x, int agent, int other) {
        int system = x.addSystem(agent, 3);
        x.addPart(system, other, 3);
        x.hide(system, 3, true);
    }

    /** One more of all: agent 15, a sixth branch of 14, a third part of TOO_BIG, system 5 and formula 39. */
    private static ObservantYard full() {
        ObservantYard x = nearlyFull();
        x.addAgent();
        x.addBranch(14, 'e', 0, 0, 14);
        x.addPart(TOO_BIG, 15, 0);
        x.addSystem(14, 1);
        x.addNot(0);
        return x;
    }

    /** A call that throws leaves the object as it was, whether its graphs stand already or not. */
    static void refused(Maker maker, Class<?> due, Call call) {
        for (int turn = 0; turn < 2; turn++) {
            ObservantYard x = maker.make();
            if (turn == 1) {
                askForGraphs(x);
            }
            Check.fails(() -> call.of(x), due);
            Check.is(tell(x), TOLD.computeIfAbsent(maker, made -> tell(made.make())));
        }
    }

    static void taken(Maker maker, Object due, Call call) {
        Check.is(answer(maker.make(), call), due);
    }

    static Object answer(ObservantYard x, Call call) {
        try {
            return call.of(x);
        } catch (RuntimeException e) {
            return e.getClass().getSimpleName();
        }
    }

    private static void askForGraphs(ObservantYard x) {
        for (int system = 0; system < 6; system++) {
            int asked = system;
            answer(x, y -> y.countStates(asked));
        }
    }

    /** All that can be seen of a yard in less than 512 calls; it is no good afterwards. */
    static String tell(ObservantYard x) {
        StringBuilder told = new StringBuilder();
        tellEquations(x, told);
        for (int system = 0; system < 6; system++) {
            tellSystem(x, system, told);
        }
        tellFormulas(x, told);
        tellByEdits(x, told);
        return told.toString();
    }

    private static void add(StringBuilder told, ObservantYard x, Call call) {
        told.append(answer(x, call)).append(' ');
    }

    private static void tellEquations(ObservantYard x, StringBuilder told) {
        told.append("branches ");
        for (int agent = 0; agent <= 16; agent++) {
            int asked = agent;
            add(told, x, y -> y.countBranches(asked));
        }
    }

    private static void tellSystem(ObservantYard x, int system, StringBuilder told) {
        told.append("system ");
        add(told, x, y -> y.countParts(system));
        add(told, x, y -> y.countStates(system));
        add(told, x, y -> y.checksum(system));
        add(told, x, y -> y.silentShare(system));
        for (int part = 0; part < 3; part++) {
            int asked = part;
            add(told, x, y -> y.getAgent(system, 0, asked));
            add(told, x, y -> y.getKept(system, 0, asked));
        }
    }

    private static void tellFormulas(ObservantYard x, StringBuilder told) {
        told.append("formulas ");
        for (int formula = 0; formula <= 40; formula++) {
            int asked = formula;
            add(told, x, y -> y.getDepth(asked));
            add(told, x, y -> y.countHolding(BIG, asked));
        }
    }

    /** Edits answer what was there before; the big systems can be looked at, too, when more is hidden. */
    private static void tellByEdits(ObservantYard x, StringBuilder told) {
        told.append("hidden ");
        for (int system = 0; system < 6; system++) {
            int asked = system;
            for (int name = 0; name < 4; name++) {
                int hidden = name;
                add(told, x, y -> y.hide(asked, hidden, true));
            }
            add(told, x, y -> y.checksum(asked));
            for (int part = 0; part < 3; part++) {
                int begun = part;
                add(told, x, y -> y.setPart(asked, begun, 0, 0));
            }
        }
        told.append("nexts ");
        for (int agent = 0; agent < 16; agent++) {
            int asked = agent;
            for (int branch = 0; branch <= (agent == 14 ? 6 : 2); branch++) {
                int led = branch;
                add(told, x, y -> y.lead(asked, led, 0));
            }
        }
        told.append("new ");
        add(told, x, ObservantYard::addAgent);
        add(told, x, y -> y.addSystem(0, 0));
        add(told, x, y -> y.addNot(0));
    }
}
