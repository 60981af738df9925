/** Promises 1 to 6 and "Equations" and "Steps" of the terms, at their limits. */
public final class EquationEdgesTest {
    private static final char[] KINDS = {'t', 'e', 'o', 'i'};

    // ---- promise 1

    /** Without agents and systems, with one formula: each call that needs another one is refused. */
    private static void newObject() {
        Yards.Call[] calls = {
            x -> x.addBranch(0, 't', 0, 0, 0), x -> x.dropBranch(0, 0), x -> x.lead(0, 0, 0), x -> x.countBranches(0),
            x -> x.addSystem(0, 0), x -> x.addPart(0, 0, 0), x -> x.setPart(0, 0, 0, 0), x -> x.hide(0, 0, true),
            x -> x.copy(0), x -> x.countParts(0), x -> x.countStates(0), x -> x.countSteps(0, 0),
            x -> x.getLabel(0, 0, 0), x -> x.getTarget(0, 0, 0), x -> x.getAgent(0, 0, 0), x -> x.getKept(0, 0, 0),
            x -> x.countStuck(0), x -> x.canChatter(0), x -> x.canShow(0, 0), x -> x.stepsToStuck(0),
            x -> x.isAlike(0, 0, 's'), x -> x.areAlike(0, 0, 0, 's'), x -> x.countClasses(0, 's'),
            x -> x.simulates(0, 0), x -> x.roundsApart(0, 0), x -> x.firstStep(0, 0), x -> x.countTraces(0, 1),
            x -> x.addNot(1), x -> x.addBoth(0, 1), x -> x.addBoth(1, 0), x -> x.addStep('d', 0, 1),
            x -> x.addReach(1), x -> x.getDepth(1), x -> x.holds(0, 0), x -> x.countHolding(0, 0),
            x -> x.tellingFormula(0, 0), x -> x.may(0, 0, 0), x -> x.must(0, 0, 0), x -> x.silentShare(0),
            x -> x.meanSteps(0), x -> x.checksum(0),
        };
        for (Yards.Call call : calls) {
            Yards.refused(Yards.NEW, Yards.NO_INDEX, call);
        }
        Yards.taken(Yards.NEW, 0, x -> x.getDepth(0));
        Yards.taken(Yards.NEW, true, ObservantYard::isSound);
        Yards.taken(Yards.NEW, 0, ObservantYard::addAgent);
        ObservantYard x = Yards.withAgents(1);
        x.addSystem(0, 0);
        Check.is(x.holds(0, 0), true);
    }

    // ---- promise 2

    private static void addAgent() {
        ObservantYard x = new ObservantYard();
        for (int agent = 0; agent < 16; agent++) {
            Check.is(x.addAgent(), agent);
            Check.is(x.countBranches(agent), 0);
        }
        Check.noRoom(x::addAgent);
        Yards.taken(Yards.NEARLY_FULL, 15, ObservantYard::addAgent);
        Yards.refused(Yards.FULL, Yards.NO_ROOM, ObservantYard::addAgent);
    }

    // ---- promise 3

    private static void addBranch() {
        Yards.taken(Yards.NEARLY_FULL, 5, x -> x.addBranch(14, 't', 0, 0, 14));
        Yards.refused(Yards.FULL, Yards.NO_ROOM, x -> x.addBranch(14, 't', 0, 0, 14));
        Yards.taken(Yards.FULL, 0, x -> x.addBranch(15, 'o', 0, 0, 15));
        Yards.taken(Yards.FULL, 2, x -> x.addBranch(0, 'o', 0, 0, 0));
        ObservantYard x = Yards.withAgents(16);
        for (int agent = 0; agent < 16; agent++) {
            for (int branch = 0; branch < 6; branch++) {
                Check.is(x.addBranch(agent, KINDS[branch % 4], 0, 0, 15 - agent), branch);
            }
            int filled = agent;
            Check.noRoom(() -> x.addBranch(filled, 't', 0, 0, 0));
            Check.is(x.countBranches(agent), 6);
        }
        addBranchBesideAgents();
        addBranchOfNoKind();
        addBranchBesideNames();
    }

    /** "For either": the agent and the one that follows; and ahead of all else that is wrong. */
    private static void addBranchBesideAgents() {
        Yards.taken(Yards.NEARLY_FULL, 0, x -> x.addBranch(13, 't', 0, 0, 14));
        for (int wrong : Yards.NO_AGENT_YET) {
            Yards.refused(Yards.NEARLY_FULL, Yards.NO_INDEX, x -> x.addBranch(wrong, 't', 0, 0, 0));
            Yards.refused(Yards.NEARLY_FULL, Yards.NO_INDEX, x -> x.addBranch(0, 't', 0, 0, wrong));
        }
        for (int wrong : Yards.NO_AGENT) {
            Yards.refused(Yards.FULL, Yards.NO_INDEX, x -> x.addBranch(wrong, 't', 0, 0, 0));
            Yards.refused(Yards.FULL, Yards.NO_INDEX, x -> x.addBranch(0, 't', 0, 0, wrong));
            Yards.refused(Yards.FULL, Yards.NO_INDEX, x -> x.addBranch(wrong, 'x', 0, 0, 0));
            Yards.refused(Yards.FULL, Yards.NO_INDEX, x -> x.addBranch(0, 'x', 0, 0, wrong));
            Yards.refused(Yards.FULL, Yards.NO_INDEX, x -> x.addBranch(wrong, 't', 5, 0, 0));
            Yards.refused(Yards.FULL, Yards.NO_INDEX, x -> x.addBranch(0, 't', 0, -1, wrong));
            Yards.refused(Yards.FULL, Yards.NO_INDEX, x -> x.addBranch(14, 't', 0, 0, wrong));
            Yards.refused(Yards.FULL, Yards.NO_INDEX, x -> x.addBranch(14, 'x', 9, 9, wrong));
        }
    }

    /** No sign beside those four: the ones next to them, the large ones, and what is the same in its low bits. */
    private static void addBranchOfNoKind() {
        for (char kind : KINDS) {
            Yards.taken(Yards.NEARLY_FULL, 0, x -> x.addBranch(13, kind, 0, 0, 0));
            char[] wrongs = {(char) (kind - 1), (char) (kind + 1), (char) (kind - 32), (char) (kind + 256),
                (char) (kind + 128), (char) (kind + 0x8000)};
            for (char wrong : wrongs) {
                Yards.refused(Yards.NEARLY_FULL, Yards.BAD_ARGUMENT, x -> x.addBranch(13, wrong, 0, 0, 0));
            }
        }
        for (char wrong : new char[] {0, 'd', 'w', 'r', 's', 'b', '0', 0xffff}) {
            Yards.refused(Yards.FULL, Yards.BAD_ARGUMENT, x -> x.addBranch(15, wrong, 0, 0, 0));
            Yards.refused(Yards.FULL, Yards.BAD_ARGUMENT, x -> x.addBranch(14, wrong, 0, 0, 0));
        }
    }

    /** 0 to 4, for each kind, even where the kind looks at neither. */
    private static void addBranchBesideNames() {
        for (char kind : KINDS) {
            for (int name : new int[] {0, 4}) {
                Yards.taken(Yards.NEARLY_FULL, 0, x -> x.addBranch(13, kind, name, 4 - name, 0));
                Yards.taken(Yards.NEARLY_FULL, 0, x -> x.addBranch(13, kind, name, name, 0));
            }
            for (int wrong : new int[] {-1, 5, Yards.LOW, Yards.HIGH}) {
                Yards.refused(Yards.NEARLY_FULL, Yards.BAD_ARGUMENT, x -> x.addBranch(13, kind, wrong, 0, 0));
                Yards.refused(Yards.NEARLY_FULL, Yards.BAD_ARGUMENT, x -> x.addBranch(13, kind, 4, wrong, 0));
                Yards.refused(Yards.FULL, Yards.BAD_ARGUMENT, x -> x.addBranch(14, kind, wrong, 4, 0));
                Yards.refused(Yards.FULL, Yards.BAD_ARGUMENT, x -> x.addBranch(14, kind, 0, wrong, 0));
            }
        }
    }

    // ---- promises 4 to 6

    private static void dropBranch() {
        Yards.taken(Yards.FULL, 5, x -> x.dropBranch(14, 0));
        Yards.taken(Yards.FULL, 5, x -> x.dropBranch(14, 5));
        Yards.taken(Yards.FULL, 0, x -> x.dropBranch(11, 0));
        Yards.refused(Yards.NEARLY_FULL, Yards.NO_INDEX, x -> x.dropBranch(14, 5));
        for (int wrong : new int[] {-1, 6, Yards.LOW, Yards.HIGH}) {
            Yards.refused(Yards.FULL, Yards.NO_INDEX, x -> x.dropBranch(14, wrong));
        }
        for (int wrong : Yards.NO_AGENT) {
            Yards.refused(Yards.FULL, Yards.NO_INDEX, x -> x.dropBranch(wrong, 0));
        }
        for (int none : new int[] {12, 13, 15}) {
            Yards.refused(Yards.FULL, Yards.NO_INDEX, x -> x.dropBranch(none, 0));
        }
        for (int dropped = 0; dropped < 6; dropped++) {
            dropOfSix(dropped);
        }
    }

    /** Branch b of agent 15 sends b % 4 along b / 4 and leads to agent b. */
    private static ObservantYard sixBranches() {
        ObservantYard x = Yards.withAgents(16);
        for (int branch = 0; branch < 6; branch++) {
            x.addBranch(15, 'o', branch / 4, branch % 4, branch);
            x.addBranch(14, 't', 0, 0, branch);
        }
        x.addSystem(15, 0);
        return x;
    }

    private static void dropOfSix(int dropped) {
        ObservantYard x = sixBranches();
        Check.is(x.countSteps(0, 0), 6);
        Check.is(x.dropBranch(15, dropped), 5);
        Check.is(x.countBranches(15), 5);
        Check.is(x.countBranches(14), 6);
        Check.is(x.countSteps(0, 0), 5);
        for (int branch = 0; branch < 5; branch++) {
            int before = branch < dropped ? branch : branch + 1;
            int label = 100 + before / 4 * 10 + before % 4;
            Check.is(x.getLabel(0, 0, branch), label);
            Check.is(x.getAgent(0, x.getTarget(0, 0, branch), 0), before);
            Check.is(x.lead(15, branch, 15), before);
            Check.is(x.lead(14, branch, 15), branch);
        }
        Check.noIndex(() -> x.dropBranch(15, 5));
        Check.noIndex(() -> x.lead(15, 5, 0));
        Check.is(x.addBranch(15, 'o', 3, 3, 15), 5);
        Check.noRoom(() -> x.addBranch(15, 'o', 3, 3, 15));
    }

    private static void lead() {
        Yards.taken(Yards.FULL, 14, x -> x.lead(14, 5, 15));
        Yards.taken(Yards.FULL, 6, x -> x.lead(14, 0, 0));
        Yards.taken(Yards.FULL, 12, x -> x.lead(11, 0, 11));
        for (int wrong : Yards.NO_AGENT) {
            Yards.refused(Yards.FULL, Yards.NO_INDEX, x -> x.lead(wrong, 0, 0));
            Yards.refused(Yards.FULL, Yards.NO_INDEX, x -> x.lead(0, 0, wrong));
        }
        for (int wrong : Yards.NO_AGENT_YET) {
            Yards.refused(Yards.NEARLY_FULL, Yards.NO_INDEX, x -> x.lead(14, 4, wrong));
        }
        for (int wrong : new int[] {-1, 6, Yards.LOW, Yards.HIGH}) {
            Yards.refused(Yards.FULL, Yards.NO_INDEX, x -> x.lead(14, wrong, 0));
        }
        Yards.refused(Yards.NEARLY_FULL, Yards.NO_INDEX, x -> x.lead(14, 5, 0));
        Yards.refused(Yards.FULL, Yards.NO_INDEX, x -> x.lead(11, 1, 0));
        Yards.refused(Yards.FULL, Yards.NO_INDEX, x -> x.lead(15, 0, 0));
    }

    private static void countBranches() {
        Yards.taken(Yards.FULL, 6, x -> x.countBranches(14));
        Yards.taken(Yards.NEARLY_FULL, 5, x -> x.countBranches(14));
        Yards.taken(Yards.FULL, 0, x -> x.countBranches(15));
        Yards.taken(Yards.FULL, 2, x -> x.countBranches(0));
        for (int wrong : Yards.NO_AGENT) {
            Yards.refused(Yards.FULL, Yards.NO_INDEX, x -> x.countBranches(wrong));
        }
        for (int wrong : Yards.NO_AGENT_YET) {
            Yards.refused(Yards.NEARLY_FULL, Yards.NO_INDEX, x -> x.countBranches(wrong));
        }
    }

    // ---- what a branch of each kind allows, with each channel, value, kept name and set of hidden names

    private static ObservantYard withBranch(char kind, int channel, int value, int kept) {
        ObservantYard x = Yards.withAgents(2);
        x.addBranch(0, kind, channel, value, 1);
        x.addSystem(0, kept);
        return x;
    }

    /** Asks in turn with each set of hidden names, of which each differs from the one before by one name. */
    private static int hiddenNext(ObservantYard x, int system, int hidden, int turn) {
        int name = Integer.numberOfTrailingZeros(turn);
        int result = turn == 0 ? hidden : hidden ^ 1 << name;
        if (turn != 0) {
            Check.is(x.hide(system, name, (result >> name & 1) != 0), (hidden >> name & 1) != 0);
        }
        return result;
    }

    private static void step(ObservantYard x, int step, int label, int agent, int kept) {
        Check.is(x.getLabel(0, 0, step), label);
        int target = x.getTarget(0, 0, step);
        Check.is(x.getAgent(0, target, 0), agent);
        Check.is(x.getKept(0, target, 0), kept);
    }

    /** Silent ones and questions look at no channel and at no hidden name, and a silent one at no value. */
    private static void silentKinds(int channel, int value, int kept) {
        ObservantYard silent = withBranch('t', channel, value, kept);
        ObservantYard question = withBranch('e', channel, value, kept);
        int hidden = 0;
        int hiddenToo = 0;
        for (int turn = 0; turn < 16; turn++) {
            hidden = hiddenNext(silent, 0, hidden, turn);
            Check.is(silent.countSteps(0, 0), 1);
            step(silent, 0, 0, 1, kept);
            hiddenToo = hiddenNext(question, 0, hiddenToo, turn);
            boolean isAnswered = value == 4 || value == kept;
            Check.is(question.countSteps(0, 0), isAnswered ? 1 : 0);
            if (isAnswered) {
                step(question, 0, 0, 1, kept);
            }
        }
    }

    private static void sending(int channel, int value, int kept) {
        ObservantYard x = withBranch('o', channel, value, kept);
        int along = channel == 4 ? kept : channel;
        int sent = value == 4 ? kept : value;
        int hidden = 0;
        for (int turn = 0; turn < 16; turn++) {
            hidden = hiddenNext(x, 0, hidden, turn);
            boolean isShown = ((hidden >> along | hidden >> sent) & 1) == 0;
            Check.is(x.countSteps(0, 0), isShown ? 1 : 0);
            if (isShown) {
                step(x, 0, 100 + 10 * along + sent, 1, kept);
            }
        }
    }

    private static void receiving(int channel, int value, int kept) {
        ObservantYard x = withBranch('i', channel, value, kept);
        int along = channel == 4 ? kept : channel;
        int hidden = 0;
        for (int turn = 0; turn < 16; turn++) {
            hidden = hiddenNext(x, 0, hidden, turn);
            int steps = 0;
            for (int name = 0; name < 4; name++) {
                boolean isAllowed = value == 4 || value == name;
                if (isAllowed && ((hidden >> along | hidden >> name) & 1) == 0) {
                    step(x, steps, 200 + 10 * along + name, 1, value == 4 ? name : kept);
                    steps++;
                }
            }
            Check.is(x.countSteps(0, 0), steps);
        }
    }

    private static void kindsOfBranches() {
        for (int channel = 0; channel <= 4; channel++) {
            for (int value = 0; value <= 4; value++) {
                for (int kept = 0; kept < 4; kept++) {
                    silentKinds(channel, value, kept);
                    sending(channel, value, kept);
                    receiving(channel, value, kept);
                }
            }
        }
    }

    // ---- two parts that meet, unseen, along channels and with names that are hidden or not

    private static void meeting(int channel, int value, int channelThere, int valueThere) {
        ObservantYard x = Yards.withAgents(4);
        x.addBranch(0, 'o', channel, value, 1);
        x.addBranch(2, 'i', channelThere, valueThere, 3);
        x.addSystem(2, 0);
        x.addPart(0, 0, 0);
        for (int name = 0; name < 4; name++) {
            x.hide(0, name, true);
        }
        for (int kept = 0; kept < 4; kept++) {
            x.setPart(0, 1, 0, kept);
            for (int keptThere = 0; keptThere < 4; keptThere++) {
                x.setPart(0, 0, 2, keptThere);
                int sent = value == 4 ? kept : value;
                boolean isAllowed = valueThere == 4 || valueThere == sent;
                boolean isOneChannel = (channel == 4 ? kept : channel) == (channelThere == 4 ? keptThere : channelThere);
                Check.is(x.countSteps(0, 0), isAllowed && isOneChannel ? 1 : 0);
                if (isAllowed && isOneChannel) {
                    step(x, 0, 0, 3, valueThere == 4 ? sent : keptThere);
                    Check.is(x.getAgent(0, 1, 1), 1);
                    Check.is(x.getKept(0, 1, 1), kept);
                }
            }
        }
    }

    private static void meetings() {
        for (int channel = 0; channel <= 4; channel++) {
            for (int value = 0; value <= 4; value++) {
                for (int channelThere = 0; channelThere <= 4; channelThere++) {
                    for (int valueThere = 0; valueThere <= 4; valueThere++) {
                        meeting(channel, value, channelThere, valueThere);
                    }
                }
            }
        }
    }

    /** What is shown alone and what is met are steps of their own: the silent one stands first, hidden or not. */
    private static void meetingsBesideShownSteps() {
        ObservantYard x = Yards.withAgents(4);
        x.addBranch(0, 'o', 1, 2, 1);
        x.addBranch(2, 'i', 1, 4, 3);
        x.addSystem(0, 0);
        x.addPart(0, 2, 0);
        int hidden = 0;
        for (int turn = 0; turn < 16; turn++) {
            hidden = hiddenNext(x, 0, hidden, turn);
            boolean isAlong = (hidden >> 1 & 1) == 0;
            int sent = isAlong && (hidden >> 2 & 1) == 0 ? 1 : 0;
            int received = isAlong ? 4 - Integer.bitCount(hidden) : 0;
            Check.is(x.countSteps(0, 0), 1 + sent + received);
            Check.is(x.getLabel(0, 0, 0), 0);
            Check.is(x.getAgent(0, x.getTarget(0, 0, 0), 0), 1);
            Check.is(x.getAgent(0, x.getTarget(0, 0, 0), 1), 3);
            Check.is(x.getKept(0, x.getTarget(0, 0, 0), 1), 2);
        }
    }

    // ---- the 512 calls of an object

    /** Edits and questions in turn; the last of 512 calls is answered as the first ones are. */
    private static void fiveHundredAndTwelveCalls() {
        ObservantYard x = new ObservantYard();
        int calls = 0;
        for (; calls < 2; calls++) {
            Check.is(x.addAgent(), calls);
        }
        Check.is(x.addSystem(0, 0), 0);
        Check.is(x.addBranch(0, 'i', 0, 4, 1), 0);
        calls += 2;
        for (; calls < 508; calls += 4) {
            Check.is(x.addBranch(1, 'o', 4, 4, 0), 0);
            Check.is(x.countStates(0), 8);
            Check.is(x.dropBranch(1, 0), 0);
            Check.is(x.countStates(0), 5);
        }
        Check.is(x.addBranch(1, 'o', 4, 4, 0), 0);
        Check.is(x.checksum(0) == 7, false);
        Check.is(x.isAlike(0, 0, 't'), true);
        Check.is(x.countTraces(0, 2), 4);
        Check.is(calls + 4, 512);
    }

    public static void main(String[] args) {
        newObject();
        addAgent();
        addBranch();
        dropBranch();
        lead();
        countBranches();
        kindsOfBranches();
        meetings();
        meetingsBesideShownSteps();
        fiveHundredAndTwelveCalls();
        Check.end();
    }
}
