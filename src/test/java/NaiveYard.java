import java.util.ArrayDeque;
import java.util.ArrayList;
import java.util.Arrays;
import java.util.Comparator;
import java.util.HashMap;
import java.util.HashSet;
import java.util.List;
import java.util.Map;
import java.util.NoSuchElementException;
import java.util.Set;
import java.util.TreeSet;

/**
 * The document once more, word by word and without any care for speed: relations are pairs struck out,
 * answers are looked for by walking. The tests compare the class with it.
 */
final class NaiveYard {
    static final class Branch {
        char kind;
        int channel;
        int value;
        int next;
    }

    static final class Sys {
        final List<int[]> parts = new ArrayList<>();
        final boolean[] hidden = new boolean[4];
    }

    static final class Formula {
        char kind;
        int label;
        int one;
        int other;
        int depth;
    }

    /** A step: its label and the index of its target. */
    record Step(int label, int target) {
    }

    static final class Graph {
        final List<List<Integer>> states = new ArrayList<>();
        final List<List<Step>> steps = new ArrayList<>();
        private final Map<Integer, Set<Integer>> kept = new HashMap<>();
        final Map<Integer, Boolean> judged = new HashMap<>();
        boolean tooMany;

        int size() {
            return states.size();
        }

        /** What was asked once is kept: all else would take too long. */
        Set<Integer> silently(int state) {
            return weakly(state, 0);
        }

        Set<Integer> weakly(int state, int label) {
            int key = 1000 * state + label;
            if (!kept.containsKey(key)) {
                kept.put(key, label == 0 ? walkSilently(state) : walkWeakly(state, label));
            }
            return kept.get(key);
        }

        private Set<Integer> walkSilently(int state) {
            Set<Integer> seen = new TreeSet<>();
            ArrayDeque<Integer> open = new ArrayDeque<>();
            open.add(state);
            seen.add(state);
            while (!open.isEmpty()) {
                for (Step step : steps.get(open.poll())) {
                    if (step.label() == 0 && seen.add(step.target())) {
                        open.add(step.target());
                    }
                }
            }
            return seen;
        }

        private Set<Integer> walkWeakly(int state, int label) {
            Set<Integer> result = new TreeSet<>();
            for (int between : silently(state)) {
                for (Step step : steps.get(between)) {
                    if (step.label() == label) {
                        result.addAll(silently(step.target()));
                    }
                }
            }
            return result;
        }

        Set<Integer> anyhow(int state) {
            Set<Integer> seen = new TreeSet<>();
            ArrayDeque<Integer> open = new ArrayDeque<>();
            open.add(state);
            seen.add(state);
            while (!open.isEmpty()) {
                for (Step step : steps.get(open.poll())) {
                    if (seen.add(step.target())) {
                        open.add(step.target());
                    }
                }
            }
            return seen;
        }
    }

    final List<List<Branch>> agents = new ArrayList<>();
    final List<Sys> systems = new ArrayList<>();
    final List<Formula> formulas = new ArrayList<>();

    NaiveYard() {
        Formula first = new Formula();
        first.kind = 'T';
        formulas.add(first);
    }

    static void index(boolean ok) {
        if (!ok) {
            throw new IndexOutOfBoundsException();
        }
    }

    static void argument(boolean ok) {
        if (!ok) {
            throw new IllegalArgumentException();
        }
    }

    static void room(boolean ok) {
        if (!ok) {
            throw new IllegalStateException();
        }
    }

    static void count(boolean ok) {
        if (!ok) {
            throw new ArithmeticException();
        }
    }

    boolean isAgent(int agent) {
        return agent >= 0 && agent < agents.size();
    }

    boolean isSystem(int system) {
        return system >= 0 && system < systems.size();
    }

    boolean isFormula(int formula) {
        return formula >= 0 && formula < formulas.size();
    }

    static boolean isName(int name) {
        return name >= 0 && name <= 3;
    }

    static boolean isLabel(int label) {
        if (label == 0) {
            return true;
        }
        for (int channel = 0; channel < 4; channel++) {
            for (int name = 0; name < 4; name++) {
                if (label == 100 + 10 * channel + name || label == 200 + 10 * channel + name) {
                    return true;
                }
            }
        }
        return false;
    }

    // ---- equations and systems

    int addAgent() {
        room(agents.size() < 16);
        agents.add(new ArrayList<>());
        return agents.size() - 1;
    }

    int addBranch(int agent, char kind, int channel, int value, int next) {
        index(isAgent(agent) && isAgent(next));
        argument("teoi".indexOf(kind) >= 0);
        argument(channel >= 0 && channel <= 4 && value >= 0 && value <= 4);
        room(agents.get(agent).size() < 6);
        Branch branch = new Branch();
        branch.kind = kind;
        branch.channel = channel;
        branch.value = value;
        branch.next = next;
        agents.get(agent).add(branch);
        return agents.get(agent).size() - 1;
    }

    int dropBranch(int agent, int branch) {
        index(isAgent(agent));
        index(branch >= 0 && branch < agents.get(agent).size());
        agents.get(agent).remove(branch);
        return agents.get(agent).size();
    }

    int lead(int agent, int branch, int next) {
        index(isAgent(agent) && isAgent(next));
        index(branch >= 0 && branch < agents.get(agent).size());
        Branch changed = agents.get(agent).get(branch);
        int before = changed.next;
        changed.next = next;
        return before;
    }

    int countBranches(int agent) {
        index(isAgent(agent));
        return agents.get(agent).size();
    }

    int addSystem(int agent, int kept) {
        index(isAgent(agent));
        argument(isName(kept));
        room(systems.size() < 6);
        Sys made = new Sys();
        made.parts.add(new int[] {agent, kept});
        systems.add(made);
        return systems.size() - 1;
    }

    int addPart(int system, int agent, int kept) {
        index(isSystem(system) && isAgent(agent));
        argument(isName(kept));
        room(systems.get(system).parts.size() < 3);
        systems.get(system).parts.add(new int[] {agent, kept});
        return systems.get(system).parts.size() - 1;
    }

    int setPart(int system, int part, int agent, int kept) {
        index(isSystem(system) && isAgent(agent));
        index(part >= 0 && part < systems.get(system).parts.size());
        argument(isName(kept));
        int[] before = systems.get(system).parts.set(part, new int[] {agent, kept});
        return before[0];
    }

    boolean hide(int system, int name, boolean isHidden) {
        index(isSystem(system));
        argument(isName(name));
        boolean before = systems.get(system).hidden[name];
        systems.get(system).hidden[name] = isHidden;
        return before;
    }

    int copy(int system) {
        index(isSystem(system));
        room(systems.size() < 6);
        Sys made = new Sys();
        for (int[] part : systems.get(system).parts) {
            made.parts.add(part.clone());
        }
        System.arraycopy(systems.get(system).hidden, 0, made.hidden, 0, 4);
        systems.add(made);
        return systems.size() - 1;
    }

    int countParts(int system) {
        index(isSystem(system));
        return systems.get(system).parts.size();
    }

    // ---- graphs

    private static final class Lead {
        final int label;
        final List<Integer> state;

        Lead(int label, List<Integer> state) {
            this.label = label;
            this.state = state;
        }
    }

    private static final Comparator<Lead> ORDER = (one, other) -> {
        if (one.label != other.label) {
            return Integer.compare(one.label, other.label);
        }
        for (int at = 0; at < one.state.size(); at++) {
            int order = Integer.compare(one.state.get(at), other.state.get(at));
            if (order != 0) {
                return order;
            }
        }
        return 0;
    };

    private static List<Integer> with(List<Integer> state, int part, int agent, int kept) {
        List<Integer> result = new ArrayList<>(state);
        result.set(2 * part, agent);
        result.set(2 * part + 1, kept);
        return result;
    }

    private TreeSet<Lead> leads(Sys system, List<Integer> state) {
        TreeSet<Lead> result = new TreeSet<>(ORDER);
        for (int part = 0; part < system.parts.size(); part++) {
            int kept = state.get(2 * part + 1);
            for (Branch branch : agents.get(state.get(2 * part))) {
                int channel = branch.channel == 4 ? kept : branch.channel;
                int value = branch.value == 4 ? kept : branch.value;
                List<Integer> after = with(state, part, branch.next, kept);
                if (branch.kind == 't' || branch.kind == 'e' && value == kept) {
                    result.add(new Lead(0, after));
                }
                if (branch.kind == 'o') {
                    if (!system.hidden[channel] && !system.hidden[value]) {
                        result.add(new Lead(100 + 10 * channel + value, after));
                    }
                    meet(system, state, part, channel, value, after, result);
                }
                if (branch.kind == 'i') {
                    for (int name = 0; name < 4; name++) {
                        if (!system.hidden[channel] && !system.hidden[name]
                                && (branch.value == 4 || branch.value == name)) {
                            result.add(new Lead(200 + 10 * channel + name,
                                    with(state, part, branch.next, branch.value == 4 ? name : kept)));
                        }
                    }
                }
            }
        }
        return result;
    }

    private void meet(Sys system, List<Integer> state, int sender, int channel, int value, List<Integer> after,
            TreeSet<Lead> result) {
        for (int part = 0; part < system.parts.size(); part++) {
            if (part != sender) {
                int kept = state.get(2 * part + 1);
                for (Branch branch : agents.get(state.get(2 * part))) {
                    int along = branch.channel == 4 ? kept : branch.channel;
                    if (branch.kind == 'i' && along == channel && (branch.value == 4 || branch.value == value)) {
                        result.add(new Lead(0,
                                with(after, part, branch.next, branch.value == 4 ? value : kept)));
                    }
                }
            }
        }
    }

    Graph graph(int number) {
        Sys system = systems.get(number);
        Graph graph = new Graph();
        List<Integer> first = new ArrayList<>();
        for (int[] part : system.parts) {
            first.add(part[0]);
            first.add(part[1]);
        }
        Map<List<Integer>, Integer> numbers = new HashMap<>();
        numbers.put(first, 0);
        graph.states.add(first);
        for (int at = 0; at < graph.states.size(); at++) {
            TreeSet<Step> row = new TreeSet<>(Comparator.comparingInt(Step::label).thenComparingInt(Step::target));
            for (Lead lead : leads(system, graph.states.get(at))) {
                Integer known = numbers.get(lead.state);
                if (known == null) {
                    known = graph.states.size();
                    numbers.put(lead.state, known);
                    graph.states.add(lead.state);
                    if (graph.states.size() > 150) {
                        graph.tooMany = true;
                        return graph;
                    }
                }
                row.add(new Step(lead.label, known));
            }
            graph.steps.add(new ArrayList<>(row));
        }
        return graph;
    }

    Graph fitting(int system) {
        index(isSystem(system));
        Graph graph = graph(system);
        count(!graph.tooMany);
        return graph;
    }

    private void state(int system, int state) {
        index(isSystem(system));
        index(state >= 0);
        Graph graph = graph(system);
        index(graph.tooMany || state < graph.size());
    }

    int countStates(int system) {
        return fitting(system).size();
    }

    int countSteps(int system, int state) {
        state(system, state);
        return fitting(system).steps.get(state).size();
    }

    private Step step(int system, int state, int step) {
        state(system, state);
        List<Step> steps = fitting(system).steps.get(state);
        if (step < 0 || step >= steps.size()) {
            throw new NoSuchElementException();
        }
        return steps.get(step);
    }

    int getLabel(int system, int state, int step) {
        return step(system, state, step).label();
    }

    int getTarget(int system, int state, int step) {
        return step(system, state, step).target();
    }

    int getAgent(int system, int state, int part) {
        state(system, state);
        index(part >= 0 && part < systems.get(system).parts.size());
        return fitting(system).states.get(state).get(2 * part);
    }

    int getKept(int system, int state, int part) {
        state(system, state);
        index(part >= 0 && part < systems.get(system).parts.size());
        return fitting(system).states.get(state).get(2 * part + 1);
    }

    int countStuck(int system) {
        int result = 0;
        for (List<Step> steps : fitting(system).steps) {
            result += steps.isEmpty() ? 1 : 0;
        }
        return result;
    }

    boolean canChatter(int system) {
        Graph graph = fitting(system);
        for (int state = 0; state < graph.size(); state++) {
            for (Step step : graph.steps.get(state)) {
                if (step.label() == 0 && graph.silently(step.target()).contains(state)) {
                    return true;
                }
            }
        }
        return false;
    }

    boolean canShow(int system, int label) {
        index(isSystem(system));
        argument(isLabel(label));
        for (List<Step> steps : fitting(system).steps) {
            for (Step step : steps) {
                if (step.label() == label) {
                    return true;
                }
            }
        }
        return false;
    }

    int stepsToStuck(int system) {
        Graph graph = fitting(system);
        Set<Integer> here = new HashSet<>(Set.of(0));
        for (int way = 0; way <= graph.size(); way++) {
            Set<Integer> next = new HashSet<>();
            for (int state : here) {
                if (graph.steps.get(state).isEmpty()) {
                    return way;
                }
                for (Step step : graph.steps.get(state)) {
                    next.add(step.target());
                }
            }
            here = next;
        }
        return -1;
    }

    // ---- likeness

    /** The greatest relation between states of two graphs, by pairs struck out. */
    private static boolean[][] greatest(Graph one, Graph other, char kind, boolean bothWays) {
        boolean[][] related = new boolean[one.size()][other.size()];
        for (boolean[] row : related) {
            Arrays.fill(row, true);
        }
        boolean struck = true;
        while (struck) {
            struck = false;
            for (int s = 0; s < one.size(); s++) {
                for (int t = 0; t < other.size(); t++) {
                    if (related[s][t] && !(copies(one, s, other, t, kind, related, false)
                            && (!bothWays || copies(other, t, one, s, kind, related, true)))) {
                        related[s][t] = false;
                        struck = true;
                    }
                }
            }
        }
        return related;
    }

    private static boolean in(boolean[][] related, int s, int t, boolean turned) {
        return turned ? related[t][s] : related[s][t];
    }

    /** Whether each step of s, in one, is answered by t, in other. */
    private static boolean copies(Graph one, int s, Graph other, int t, char kind, boolean[][] related,
            boolean turned) {
        for (Step step : one.steps.get(s)) {
            boolean answered = false;
            if (kind == 's') {
                for (Step answer : other.steps.get(t)) {
                    answered |= answer.label() == step.label() && in(related, step.target(), answer.target(), turned);
                }
            } else if (kind == 'w') {
                for (int answer : other.weakly(t, step.label())) {
                    answered |= in(related, step.target(), answer, turned);
                }
            } else {
                answered = step.label() == 0 && in(related, step.target(), t, turned);
                for (int between : other.silently(t)) {
                    if (in(related, s, between, turned)) {
                        for (Step answer : other.steps.get(between)) {
                            answered |= answer.label() == step.label()
                                    && in(related, step.target(), answer.target(), turned);
                        }
                    }
                }
            }
            if (!answered) {
                return false;
            }
        }
        return true;
    }

    private static Set<Integer> shownFrom(Graph graph, Set<Integer> states) {
        Set<Integer> result = new TreeSet<>();
        for (int state : states) {
            for (Step step : graph.steps.get(state)) {
                if (step.label() != 0) {
                    result.add(step.label());
                }
            }
        }
        return result;
    }

    private static Set<Integer> after(Graph graph, Set<Integer> states, int label) {
        Set<Integer> result = new TreeSet<>();
        for (int state : states) {
            result.addAll(graph.weakly(state, label));
        }
        return result;
    }

    private static boolean sameTraces(Graph one, int s, Graph other, int t) {
        Set<List<Set<Integer>>> seen = new HashSet<>();
        ArrayDeque<List<Set<Integer>>> open = new ArrayDeque<>();
        open.add(List.of(one.silently(s), other.silently(t)));
        seen.add(open.peek());
        while (!open.isEmpty()) {
            List<Set<Integer>> pair = open.poll();
            Set<Integer> labels = shownFrom(one, pair.get(0));
            if (!labels.equals(shownFrom(other, pair.get(1)))) {
                return false;
            }
            for (int label : labels) {
                List<Set<Integer>> next = List.of(after(one, pair.get(0), label), after(other, pair.get(1), label));
                if (seen.add(next)) {
                    open.add(next);
                }
            }
        }
        return true;
    }

    private static boolean like(Graph one, int s, Graph other, int t, char kind) {
        return kind == 't' ? sameTraces(one, s, other, t) : greatest(one, other, kind, true)[s][t];
    }

    boolean isAlike(int system, int other, char kind) {
        index(isSystem(system) && isSystem(other));
        argument("swbt".indexOf(kind) >= 0);
        return like(fitting(system), 0, fitting(other), 0, kind);
    }

    boolean areAlike(int system, int state, int other, char kind) {
        state(system, state);
        state(system, other);
        argument("swbt".indexOf(kind) >= 0);
        Graph graph = fitting(system);
        return like(graph, state, graph, other, kind);
    }

    int countClasses(int system, char kind) {
        index(isSystem(system));
        argument("swb".indexOf(kind) >= 0);
        Graph graph = fitting(system);
        boolean[][] related = greatest(graph, graph, kind, true);
        int result = 0;
        for (int state = 0; state < graph.size(); state++) {
            boolean isNew = true;
            for (int before = 0; before < state; before++) {
                isNew &= !related[before][state];
            }
            result += isNew ? 1 : 0;
        }
        return result;
    }

    boolean simulates(int system, int other) {
        index(isSystem(system) && isSystem(other));
        return greatest(fitting(other), fitting(system), 's', false)[0][0];
    }

    // ---- the game

    /** within[n][s][t]: the one who tells them apart can win within n rounds. */
    private static List<boolean[][]> rounds(Graph one, Graph other) {
        List<boolean[][]> within = new ArrayList<>();
        within.add(new boolean[one.size()][other.size()]);
        boolean grew = true;
        while (grew) {
            grew = false;
            boolean[][] last = within.get(within.size() - 1);
            boolean[][] next = new boolean[one.size()][other.size()];
            for (int s = 0; s < one.size(); s++) {
                for (int t = 0; t < other.size(); t++) {
                    next[s][t] = !winning(one, s, other, t, last).isEmpty();
                    grew |= next[s][t] != last[s][t];
                }
            }
            within.add(next);
        }
        return within;
    }

    /** The labels of winning steps, 1000 more for those of the other one. */
    private static List<Integer> winning(Graph one, int s, Graph other, int t, boolean[][] last) {
        List<Integer> result = new ArrayList<>();
        for (Step step : one.steps.get(s)) {
            boolean wins = true;
            for (Step answer : other.steps.get(t)) {
                wins &= answer.label() != step.label() || last[step.target()][answer.target()];
            }
            if (wins) {
                result.add(step.label());
            }
        }
        for (Step step : other.steps.get(t)) {
            boolean wins = true;
            for (Step answer : one.steps.get(s)) {
                wins &= answer.label() != step.label() || last[answer.target()][step.target()];
            }
            if (wins) {
                result.add(1000 + step.label());
            }
        }
        return result;
    }

    int roundsApart(int system, int other) {
        index(isSystem(system) && isSystem(other));
        List<boolean[][]> within = rounds(fitting(system), fitting(other));
        for (int round = 0; round < within.size(); round++) {
            if (within.get(round)[0][0]) {
                return round;
            }
        }
        return -1;
    }

    int firstStep(int system, int other) {
        int rounds = roundsApart(system, other);
        if (rounds < 0) {
            throw new NoSuchElementException();
        }
        Graph one = fitting(system);
        Graph two = fitting(other);
        int best = -1;
        for (int label : winning(one, 0, two, 0, rounds(one, two).get(rounds - 1))) {
            if (best < 0 || label % 1000 < best % 1000 || label % 1000 == best % 1000 && label < best) {
                best = label;
            }
        }
        return best;
    }

    int countTraces(int system, int length) {
        index(isSystem(system));
        argument(length >= 1 && length <= 5);
        Graph graph = fitting(system);
        Map<List<Integer>, Set<Integer>> rows = new HashMap<>();
        rows.put(List.of(), graph.silently(0));
        for (int done = 0; done < length; done++) {
            Map<List<Integer>, Set<Integer>> longer = new HashMap<>();
            for (Map.Entry<List<Integer>, Set<Integer>> row : rows.entrySet()) {
                for (int label : shownFrom(graph, row.getValue())) {
                    List<Integer> next = new ArrayList<>(row.getKey());
                    next.add(label);
                    longer.put(next, after(graph, row.getValue(), label));
                }
            }
            rows = longer;
        }
        return rows.size();
    }

    // ---- formulas

    private int add(char kind, int label, int one, int other) {
        int depth = 1 + Math.max(formulas.get(one).depth, formulas.get(other).depth);
        room(formulas.size() < 40 && depth <= 8);
        Formula made = new Formula();
        made.kind = kind;
        made.label = label;
        made.one = one;
        made.other = other;
        made.depth = depth;
        formulas.add(made);
        return formulas.size() - 1;
    }

    int addNot(int formula) {
        index(isFormula(formula));
        return add('n', 0, formula, formula);
    }

    int addBoth(int formula, int other) {
        index(isFormula(formula) && isFormula(other));
        return add('&', 0, formula, other);
    }

    int addStep(char kind, int label, int formula) {
        index(isFormula(formula));
        argument((kind == 'd' || kind == 'w') && isLabel(label));
        return add(kind, label, formula, formula);
    }

    int addReach(int formula) {
        index(isFormula(formula));
        return add('r', 0, formula, formula);
    }

    int getDepth(int formula) {
        index(isFormula(formula));
        return formulas.get(formula).depth;
    }

    private boolean judged(Graph graph, int state, int number) {
        int key = 1000 * state + number;
        if (!graph.judged.containsKey(key)) {
            graph.judged.put(key, judge(graph, state, number));
        }
        return graph.judged.get(key);
    }

    private boolean judge(Graph graph, int state, int number) {
        Formula formula = formulas.get(number);
        boolean result = formula.kind == 'T';
        if (formula.kind == 'n') {
            result = !judged(graph, state, formula.one);
        } else if (formula.kind == '&') {
            result = judged(graph, state, formula.one) && judged(graph, state, formula.other);
        } else if (formula.kind == 'd') {
            for (Step step : graph.steps.get(state)) {
                result = result || step.label() == formula.label && judged(graph, step.target(), formula.one);
            }
        } else if (formula.kind == 'w') {
            for (int target : graph.weakly(state, formula.label)) {
                result = result || judged(graph, target, formula.one);
            }
        } else if (formula.kind == 'r') {
            for (int target : graph.anyhow(state)) {
                result = result || judged(graph, target, formula.one);
            }
        }
        return result;
    }

    boolean holds(int system, int formula) {
        index(isSystem(system) && isFormula(formula));
        return judged(fitting(system), 0, formula);
    }

    int countHolding(int system, int formula) {
        index(isSystem(system) && isFormula(formula));
        Graph graph = fitting(system);
        int result = 0;
        for (int state = 0; state < graph.size(); state++) {
            result += judged(graph, state, formula) ? 1 : 0;
        }
        return result;
    }

    int tellingFormula(int system, int other) {
        index(isSystem(system) && isSystem(other));
        Graph one = fitting(system);
        Graph two = fitting(other);
        for (int formula = 0; formula < formulas.size(); formula++) {
            if (judged(one, 0, formula) != judged(two, 0, formula)) {
                return formula;
            }
        }
        throw new NoSuchElementException();
    }

    // ---- testers and figures

    private Map<List<Integer>, Set<List<Integer>>> both(Graph one, Graph two) {
        Map<List<Integer>, Set<List<Integer>>> leads = new HashMap<>();
        ArrayDeque<List<Integer>> open = new ArrayDeque<>();
        open.add(List.of(0, 0));
        leads.put(List.of(0, 0), new HashSet<>());
        while (!open.isEmpty()) {
            List<Integer> here = open.poll();
            Set<List<Integer>> next = leads.get(here);
            for (Step step : one.steps.get(here.get(0))) {
                if (step.label() == 0) {
                    next.add(List.of(step.target(), here.get(1)));
                }
                for (Step answer : two.steps.get(here.get(1))) {
                    if (step.label() != 0 && answer.label() != 0 && Math.abs(step.label() - answer.label()) == 100) {
                        next.add(List.of(step.target(), answer.target()));
                    }
                }
            }
            for (Step step : two.steps.get(here.get(1))) {
                if (step.label() == 0) {
                    next.add(List.of(here.get(0), step.target()));
                }
            }
            for (List<Integer> target : next) {
                if (!leads.containsKey(target)) {
                    leads.put(target, new HashSet<>());
                    open.add(target);
                    count(leads.size() <= 600);
                }
            }
        }
        return leads;
    }

    private static boolean isContent(Graph tester, int state, int agent) {
        List<Integer> parts = tester.states.get(state);
        for (int at = 0; at < parts.size(); at += 2) {
            if (parts.get(at) == agent) {
                return true;
            }
        }
        return false;
    }

    boolean may(int system, int tester, int content) {
        index(isSystem(system) && isSystem(tester) && isAgent(content));
        Graph one = fitting(system);
        Graph two = fitting(tester);
        for (List<Integer> here : both(one, two).keySet()) {
            if (isContent(two, here.get(1), content)) {
                return true;
            }
        }
        return false;
    }

    boolean must(int system, int tester, int content) {
        index(isSystem(system) && isSystem(tester) && isAgent(content));
        Graph one = fitting(system);
        Graph two = fitting(tester);
        Map<List<Integer>, Set<List<Integer>>> leads = both(one, two);
        return !evades(List.of(0, 0), leads, two, content, new HashSet<>(), new HashSet<>());
    }

    /** Whether some row of steps ends, or goes round, without a content state. */
    private static boolean evades(List<Integer> here, Map<List<Integer>, Set<List<Integer>>> leads, Graph tester,
            int content, Set<List<Integer>> path, Set<List<Integer>> harmless) {
        if (isContent(tester, here.get(1), content) || harmless.contains(here)) {
            return false;
        }
        if (path.contains(here) || leads.get(here).isEmpty()) {
            return true;
        }
        path.add(here);
        for (List<Integer> next : leads.get(here)) {
            if (evades(next, leads, tester, content, path, harmless)) {
                return true;
            }
        }
        path.remove(here);
        harmless.add(here);
        return false;
    }

    float silentShare(int system) {
        int silent = 0;
        int all = 0;
        for (List<Step> steps : fitting(system).steps) {
            for (Step step : steps) {
                silent += step.label() == 0 ? 1 : 0;
                all++;
            }
        }
        count(all > 0);
        return (float) silent / (float) all;
    }

    double meanSteps(int system) {
        Graph graph = fitting(system);
        int all = 0;
        for (List<Step> steps : graph.steps) {
            all += steps.size();
        }
        return (double) all / (double) graph.size();
    }

    long checksum(int system) {
        long sum = 7;
        for (List<Step> steps : fitting(system).steps) {
            sum = 31 * sum + steps.size();
            for (Step step : steps) {
                sum = 31 * sum + step.label();
                sum = 31 * sum + step.target();
            }
        }
        return sum;
    }

    boolean isSound() {
        for (int one = 0; one < systems.size(); one++) {
            for (int two = one + 1; two < systems.size(); two++) {
                Graph first = graph(one);
                Graph second = graph(two);
                if (!first.tooMany && !second.tooMany && first.size() + second.size() <= 24
                        && like(first, 0, second, 0, 's') && !soundPair(one, two)) {
                    return false;
                }
            }
        }
        return true;
    }

    private boolean soundPair(int one, int two) {
        boolean formulasAgree = true;
        for (int formula = 0; formula < formulas.size(); formula++) {
            formulasAgree &= holds(one, formula) == holds(two, formula);
        }
        return isAlike(one, two, 'b') && isAlike(one, two, 'w') && isAlike(one, two, 't')
                && roundsApart(one, two) < 0 && formulasAgree;
    }
}
