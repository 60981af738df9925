/** Promises 7 to 12 and "Systems" of the terms, at their limits. */
public final class SystemEdgesTest {
    // ---- promise 7

    private static void addSystem() {
        Yards.taken(Yards.NEARLY_FULL, 5, x -> x.addSystem(14, 3));
        Yards.taken(Yards.NEARLY_FULL, 5, x -> x.addSystem(0, 0));
        Yards.refused(Yards.FULL, Yards.NO_ROOM, x -> x.addSystem(15, 3));
        ObservantYard x = Yards.withAgents(1);
        for (int system = 0; system < 6; system++) {
            int missing = system;
            Check.noIndex(() -> x.countParts(missing));
            Check.is(x.addSystem(0, system % 4), system);
            Check.is(x.countParts(system), 1);
            for (int name = 0; name < 4; name++) {
                Check.is(x.hide(system, name, false), false);
            }
        }
        Check.noRoom(() -> x.addSystem(0, 0));
        Check.noIndex(() -> x.countParts(6));
        for (int wrong : Yards.NO_AGENT_YET) {
            Yards.refused(Yards.NEARLY_FULL, Yards.NO_INDEX, y -> y.addSystem(wrong, 0));
            Yards.refused(Yards.NEARLY_FULL, Yards.NO_INDEX, y -> y.addSystem(wrong, 4));
        }
        for (int wrong : Yards.NO_AGENT) {
            Yards.refused(Yards.FULL, Yards.NO_INDEX, y -> y.addSystem(wrong, 0));
            Yards.refused(Yards.FULL, Yards.NO_INDEX, y -> y.addSystem(wrong, -1));
        }
        for (int wrong : Yards.NO_NAME) {
            Yards.refused(Yards.NEARLY_FULL, Yards.BAD_ARGUMENT, y -> y.addSystem(0, wrong));
            Yards.refused(Yards.FULL, Yards.BAD_ARGUMENT, y -> y.addSystem(0, wrong));
        }
    }

    // ---- promise 8

    private static void addPart() {
        Yards.taken(Yards.NEARLY_FULL, 1, x -> x.addPart(Yards.SMALL, 14, 3));
        Yards.taken(Yards.NEARLY_FULL, 2, x -> x.addPart(Yards.TOO_BIG, 0, 0));
        Yards.refused(Yards.FULL, Yards.NO_ROOM, x -> x.addPart(Yards.TOO_BIG, 0, 0));
        Yards.refused(Yards.NEARLY_FULL, Yards.NO_ROOM, x -> x.addPart(Yards.BIG, 14, 3));
        for (int wrong : Yards.NO_SYSTEM_YET) {
            Yards.refused(Yards.NEARLY_FULL, Yards.NO_INDEX, x -> x.addPart(wrong, 0, 0));
        }
        for (int wrong : Yards.NO_SYSTEM) {
            Yards.refused(Yards.FULL, Yards.NO_INDEX, x -> x.addPart(wrong, 0, 0));
            Yards.refused(Yards.FULL, Yards.NO_INDEX, x -> x.addPart(wrong, 0, 4));
            Yards.refused(Yards.FULL, Yards.NO_INDEX, x -> x.addPart(wrong, 16, 4));
        }
        for (int wrong : Yards.NO_AGENT) {
            Yards.refused(Yards.FULL, Yards.NO_INDEX, x -> x.addPart(Yards.SMALL, wrong, 0));
            Yards.refused(Yards.FULL, Yards.NO_INDEX, x -> x.addPart(Yards.SMALL, wrong, 4));
            Yards.refused(Yards.FULL, Yards.NO_INDEX, x -> x.addPart(Yards.BIG, wrong, 0));
        }
        for (int wrong : Yards.NO_AGENT_YET) {
            Yards.refused(Yards.NEARLY_FULL, Yards.NO_INDEX, x -> x.addPart(Yards.SMALL, wrong, 0));
        }
        for (int wrong : Yards.NO_NAME) {
            Yards.refused(Yards.FULL, Yards.BAD_ARGUMENT, x -> x.addPart(Yards.SMALL, 0, wrong));
            Yards.refused(Yards.FULL, Yards.BAD_ARGUMENT, x -> x.addPart(Yards.BIG, 0, wrong));
        }
        threeParts();
    }

    private static void threeParts() {
        ObservantYard x = Yards.withAgents(3);
        x.addSystem(0, 3);
        x.addSystem(0, 0);
        Check.is(x.addPart(0, 1, 2), 1);
        Check.noIndex(() -> x.getAgent(0, 0, 2));
        Check.is(x.addPart(0, 2, 0), 2);
        for (int turn = 0; turn < 2; turn++) {
            Check.noRoom(() -> x.addPart(0, 1, 1));
            Check.is(x.countParts(0), 3);
            Check.is(x.countParts(1), 1);
            for (int part = 0; part < 3; part++) {
                Check.is(x.getAgent(0, 0, part), part);
                Check.is(x.getKept(0, 0, part), part == 0 ? 3 : part == 1 ? 2 : 0);
            }
        }
        Check.noIndex(() -> x.getAgent(0, 0, 3));
    }

    // ---- promise 9

    private static void setPart() {
        Yards.taken(Yards.FULL, 11, x -> x.setPart(Yards.SMALL, 0, 15, 3));
        Yards.taken(Yards.FULL, 13, x -> x.setPart(Yards.BIG, 2, 0, 0));
        Yards.taken(Yards.NEARLY_FULL, 14, x -> x.setPart(Yards.TOO_BIG, 1, 14, 3));
        Yards.taken(Yards.FULL, 14, x -> x.setPart(5, 0, 15, 0));
        Yards.refused(Yards.FULL, Yards.NO_INDEX, x -> x.setPart(Yards.SMALL, 1, 0, 0));
        Yards.refused(Yards.NEARLY_FULL, Yards.NO_INDEX, x -> x.setPart(Yards.TOO_BIG, 2, 0, 0));
        for (int wrong : Yards.NO_SYSTEM) {
            Yards.refused(Yards.FULL, Yards.NO_INDEX, x -> x.setPart(wrong, 0, 0, 0));
            Yards.refused(Yards.FULL, Yards.NO_INDEX, x -> x.setPart(wrong, 0, 0, 4));
        }
        for (int wrong : new int[] {-1, 3, Yards.LOW, Yards.HIGH}) {
            Yards.refused(Yards.FULL, Yards.NO_INDEX, x -> x.setPart(Yards.BIG, wrong, 0, 0));
            Yards.refused(Yards.FULL, Yards.NO_INDEX, x -> x.setPart(Yards.BIG, wrong, 0, 4));
        }
        for (int wrong : Yards.NO_AGENT) {
            Yards.refused(Yards.FULL, Yards.NO_INDEX, x -> x.setPart(Yards.BIG, 0, wrong, 0));
            Yards.refused(Yards.FULL, Yards.NO_INDEX, x -> x.setPart(Yards.BIG, 0, wrong, -1));
        }
        for (int wrong : Yards.NO_AGENT_YET) {
            Yards.refused(Yards.NEARLY_FULL, Yards.NO_INDEX, x -> x.setPart(Yards.BIG, 2, wrong, 0));
        }
        for (int wrong : Yards.NO_NAME) {
            Yards.refused(Yards.FULL, Yards.BAD_ARGUMENT, x -> x.setPart(Yards.BIG, 2, 0, wrong));
        }
        begunAnew();
    }

    /** Each part alone is begun anew, and the agent that is told is the one before. */
    private static void begunAnew() {
        ObservantYard x = Yards.withAgents(16);
        x.addSystem(0, 0);
        x.addPart(0, 0, 0);
        x.addPart(0, 0, 0);
        int[] agents = new int[3];
        int[] kept = new int[3];
        for (int turn = 1; turn < 16; turn++) {
            int part = turn % 3;
            Check.is(x.setPart(0, part, turn, turn % 4), agents[part]);
            agents[part] = turn;
            kept[part] = turn % 4;
            for (int asked = 0; asked < 3; asked++) {
                Check.is(x.getAgent(0, 0, asked), agents[asked]);
                Check.is(x.getKept(0, 0, asked), kept[asked]);
            }
        }
        Check.is(x.setPart(0, 2, agents[2], kept[2]), agents[2]);
        Check.is(x.countParts(0), 3);
    }

    // ---- promise 10

    private static void hide() {
        for (int name = 0; name < 4; name++) {
            int hidden = name;
            Yards.taken(Yards.FULL, name == 3, x -> x.hide(Yards.BIG, hidden, true));
            Yards.taken(Yards.FULL, name == 3, x -> x.hide(Yards.BIG, hidden, false));
            Yards.taken(Yards.FULL, false, x -> x.hide(5, hidden, true));
        }
        for (int wrong : Yards.NO_NAME) {
            Yards.refused(Yards.FULL, Yards.BAD_ARGUMENT, x -> x.hide(Yards.BIG, wrong, true));
            Yards.refused(Yards.FULL, Yards.BAD_ARGUMENT, x -> x.hide(Yards.TOO_BIG, wrong, false));
        }
        for (int wrong : Yards.NO_SYSTEM) {
            Yards.refused(Yards.FULL, Yards.NO_INDEX, x -> x.hide(wrong, 0, true));
            Yards.refused(Yards.FULL, Yards.NO_INDEX, x -> x.hide(wrong, 4, false));
        }
        for (int wrong : Yards.NO_SYSTEM_YET) {
            Yards.refused(Yards.NEARLY_FULL, Yards.NO_INDEX, x -> x.hide(wrong, 3, true));
        }
        hiddenByEach();
    }

    /** Each system hides its own names; what was is told, whether it is changed or not. */
    private static void hiddenByEach() {
        ObservantYard x = Yards.withAgents(1);
        x.addBranch(0, 'i', 0, 4, 0);
        x.addSystem(0, 0);
        x.addSystem(0, 0);
        for (int name = 1; name < 4; name++) {
            Check.is(x.hide(0, name, true), false);
            Check.is(x.hide(0, name, true), true);
            Check.is(x.countSteps(0, 0), 4 - name);
            Check.is(x.countSteps(1, 0), 4);
            Check.is(x.hide(1, name, false), false);
        }
        Check.is(x.hide(0, 0, true), false);
        Check.is(x.countSteps(0, 0), 0);
        for (int name = 1; name < 4; name++) {
            Check.is(x.hide(0, name, false), true);
            Check.is(x.hide(0, name, false), false);
            Check.is(x.countSteps(0, 0), 0);
        }
        Check.is(x.hide(0, 0, false), true);
        Check.is(x.countSteps(0, 0), 4);
    }

    // ---- promises 11 and 12

    private static void copy() {
        Yards.taken(Yards.NEARLY_FULL, 5, x -> x.copy(Yards.SMALL));
        Yards.taken(Yards.NEARLY_FULL, 5, x -> x.copy(4));
        Yards.taken(Yards.NEARLY_FULL, 5, x -> x.copy(Yards.TOO_BIG));
        for (int system = 0; system < 6; system++) {
            int copied = system;
            Yards.refused(Yards.FULL, Yards.NO_ROOM, x -> x.copy(copied));
        }
        for (int wrong : Yards.NO_SYSTEM) {
            Yards.refused(Yards.FULL, Yards.NO_INDEX, x -> x.copy(wrong));
        }
        for (int wrong : Yards.NO_SYSTEM_YET) {
            Yards.refused(Yards.NEARLY_FULL, Yards.NO_INDEX, x -> x.copy(wrong));
        }
        for (int system = 0; system < 5; system++) {
            copyOf(system);
        }
    }

    private static void copyOf(int system) {
        ObservantYard x = Yards.NEARLY_FULL.make();
        Check.is(x.copy(system), 5);
        Check.is(x.countParts(5), x.countParts(system));
        if (system == Yards.TOO_BIG) {
            Check.tooMany(() -> x.countStates(5));
            Check.tooMany(() -> x.countStates(system));
        } else {
            Check.is(x.checksum(5), x.checksum(system));
            Check.is(x.roundsApart(5, system), -1);
        }
        boolean isHidden = x.hide(5, 3, true);
        Check.is(isHidden, system != Yards.SMALL && system != Yards.STOPPED);
        Check.is(x.hide(5, 0, true), false);
        Check.is(x.hide(system, 0, true), false);
        Check.is(x.hide(system, 3, true), isHidden);
        int agent = x.setPart(5, 0, 13, 2);
        Check.is(x.setPart(system, 0, 13, 1), agent);
        Check.is(x.setPart(5, 0, 12, 2), 13);
        Check.is(x.getKept(5, 0, 0), 2);
        Check.is(x.getKept(system, 0, 0), 1);
        Check.noRoom(() -> x.copy(system));
    }

    private static void countParts() {
        Yards.taken(Yards.FULL, 1, x -> x.countParts(Yards.SMALL));
        Yards.taken(Yards.FULL, 3, x -> x.countParts(Yards.BIG));
        Yards.taken(Yards.FULL, 3, x -> x.countParts(Yards.TOO_BIG));
        Yards.taken(Yards.NEARLY_FULL, 2, x -> x.countParts(Yards.TOO_BIG));
        Yards.taken(Yards.FULL, 1, x -> x.countParts(5));
        for (int wrong : Yards.NO_SYSTEM) {
            Yards.refused(Yards.FULL, Yards.NO_INDEX, x -> x.countParts(wrong));
        }
        for (int wrong : Yards.NO_SYSTEM_YET) {
            Yards.refused(Yards.NEARLY_FULL, Yards.NO_INDEX, x -> x.countParts(wrong));
        }
    }

    public static void main(String[] args) {
        addSystem();
        addPart();
        setPart();
        hide();
        copy();
        countParts();
        Check.end();
    }
}
