/** Promises 38 and 39 and "Testers" of the terms, at their limits. */
public final class TesterEdgesTest {
    interface TestCall {
        Object of(ObservantYard x, int system, int tester, int content);
    }

    private static final TestCall[] OF_BOTH = {ObservantYard::may, ObservantYard::must};

    // ---- what is refused

    private static void systemsAndAgents() {
        for (TestCall call : OF_BOTH) {
            for (int wrong : Yards.NO_SYSTEM) {
                for (int system : new int[] {Yards.SMALL, Yards.TOO_BIG, wrong}) {
                    Yards.refused(Yards.FULL, Yards.NO_INDEX, x -> call.of(x, wrong, system, 0));
                    Yards.refused(Yards.FULL, Yards.NO_INDEX, x -> call.of(x, system, wrong, 0));
                }
            }
            for (int wrong : Yards.NO_AGENT) {
                Yards.refused(Yards.FULL, Yards.NO_INDEX, x -> call.of(x, Yards.SMALL, Yards.STOPPED, wrong));
                Yards.refused(Yards.FULL, Yards.NO_INDEX, x -> call.of(x, Yards.TOO_BIG, Yards.SMALL, wrong));
                Yards.refused(Yards.FULL, Yards.NO_INDEX, x -> call.of(x, Yards.SMALL, Yards.TOO_BIG, wrong));
                Yards.refused(Yards.FULL, Yards.NO_INDEX, x -> call.of(x, Yards.BIG, Yards.BIG, wrong));
            }
            for (int wrong : Yards.NO_AGENT_YET) {
                Yards.refused(Yards.NEARLY_FULL, Yards.NO_INDEX, x -> call.of(x, Yards.SMALL, Yards.STOPPED, wrong));
            }
            Yards.refused(Yards.NEARLY_FULL, Yards.NO_INDEX, x -> call.of(x, 5, 0, 0));
            Yards.refused(Yards.NEARLY_FULL, Yards.NO_INDEX, x -> call.of(x, 0, 5, 0));
            for (int system = 0; system < 6; system++) {
                int there = system;
                Yards.refused(Yards.FULL, Yards.TOO_MANY, x -> call.of(x, Yards.TOO_BIG, there, 12));
                Yards.refused(Yards.FULL, Yards.TOO_MANY, x -> call.of(x, there, Yards.TOO_BIG, 0));
            }
            for (int content = 0; content < 16; content++) {
                int asked = content;
                Yards.refused(Yards.FULL, Yards.TOO_MANY, x -> call.of(x, Yards.BIG, Yards.BIG, asked));
            }
            Yards.taken(Yards.FULL, true, x -> call.of(x, Yards.BIG, Yards.STOPPED, 12));
            Yards.taken(Yards.FULL, false, x -> call.of(x, Yards.BIG, Yards.STOPPED, 15));
            Yards.taken(Yards.FULL, true, x -> call.of(x, Yards.STOPPED, Yards.BIG, 11));
            Yards.taken(Yards.FULL, false, x -> call.of(x, Yards.STOPPED, Yards.BIG, 12));
            Yards.taken(Yards.FULL, true, x -> call.of(x, Yards.STOPPED, Yards.BIG, 13));
        }
    }

    /**
     * The tested one counts 12 agents twice, as it keeps 0 and then 1: 24 states. The tester begins one before: 25.
     * At the ends both could meet, along the name that both keep, unless the tested one hides it.
     */
    private static ObservantYard sixHundred() {
        ObservantYard x = Yards.withAgents(16);
        for (int agent = 0; agent < 11; agent++) {
            x.addBranch(agent, 't', 0, 0, agent + 1);
        }
        x.addBranch(11, 'i', 3, 4, 0);
        x.addBranch(11, 'o', 4, 2, 15);
        x.addBranch(11, 'i', 4, 2, 15);
        x.addBranch(12, 't', 0, 0, 0);
        x.addBranch(13, 'o', 3, 1, 14);
        x.addSystem(0, 0);
        x.addSystem(12, 0);
        for (int system = 0; system < 2; system++) {
            x.addPart(system, 13, 0);
            x.hide(system, 3, true);
        }
        x.hide(0, 0, true);
        x.hide(0, 1, true);
        return x;
    }

    /** 600 of both are looked at, 601 are not, on whichever side the tester is and whenever it is content. */
    private static void upToSixHundred() {
        ObservantYard x = sixHundred();
        Check.is(x.countStates(0), 24);
        Check.is(x.countStates(1), 25 + 2);
        tested(x);
        Check.is(x.hide(0, 1, false), true);
        Check.is(x.countStates(0), 24 + 1);
        refused(x);
        Check.is(x.hide(1, 1, true), false);
        Check.is(x.countStates(1), 25 + 1);
        tested(x);
        Check.is(x.hide(1, 1, false), true);
        refused(x);
        Check.is(x.hide(0, 1, true), false);
        tested(x);
        Check.is(x.setPart(1, 0, 15, 0), 12);
        Check.is(x.hide(0, 1, false), true);
        Check.is(x.may(0, 1, 15), true);
        Check.is(x.must(0, 1, 0), false);
    }

    private static void tested(ObservantYard x) {
        for (int content = 0; content < 16; content++) {
            Check.is(x.may(0, 1, content), content != 15);
            Check.is(x.must(0, 1, content), content != 15);
            Check.is(x.may(1, 0, content), content != 15 && content != 12);
            Check.is(x.must(1, 0, content), content != 15 && content != 12);
        }
    }

    private static void refused(ObservantYard x) {
        for (int content = 0; content < 16; content++) {
            int asked = content;
            Check.tooMany(() -> x.may(0, 1, asked));
            Check.tooMany(() -> x.must(0, 1, asked));
            Check.tooMany(() -> x.may(1, 0, asked));
            Check.tooMany(() -> x.must(1, 0, asked));
            if (content == 0) {
                Check.noIndex(() -> x.must(1, 0, 16));
                Check.noIndex(() -> x.may(0, 2, 16));
            }
        }
    }

    /** One refused at 601 states leaves all else as it was. */
    private static void refusedAtSixHundredAndOne() {
        Yards.Maker maker = () -> {
            ObservantYard x = sixHundred();
            x.hide(0, 1, false);
            return x;
        };
        for (int content : new int[] {0, 12, 15}) {
            Yards.refused(maker, Yards.TOO_MANY, x -> x.may(0, 1, content));
            Yards.refused(maker, Yards.TOO_MANY, x -> x.must(1, 0, content));
        }
    }

    // ---- who meets whom

    /** Sixteen labels sent on one side, and each of sixteen received on the other one: just the same ones meet. */
    private static void labelsThatMeet() {
        for (int label = 0; label < 16; label++) {
            for (int tester = 0; tester < 2; tester++) {
                ObservantYard x = Yards.withAgents(4);
                x.addBranch(0, 'o', label / 4, label % 4, 2);
                x.addSystem(tester, 0);
                x.addSystem(1 - tester, 0);
                int content = tester == 0 ? 3 : 2;
                for (int there = 0; there < 16; there++) {
                    x.addBranch(1, 'i', there / 4, there % 4, 3);
                    Check.is(x.may(0, 1, content), label == there);
                    Check.is(x.must(0, 1, content), label == there);
                    x.dropBranch(1, 0);
                }
                Check.is(x.may(0, 1, content), false);
            }
        }
    }

    /** A name that either side hides, as the channel or as what is sent, keeps them apart. */
    private static void hiddenBySides() {
        ObservantYard x = Yards.withAgents(4);
        x.addBranch(0, 'o', 1, 2, 3);
        x.addBranch(1, 'i', 1, 4, 2);
        x.addSystem(0, 0);
        x.addSystem(1, 0);
        for (int hidden = 0; hidden < 256; hidden += 5) {
            for (int bit = 0; bit < 8; bit++) {
                x.hide(bit / 4, bit % 4, (hidden >> bit & 1) != 0);
            }
            boolean meets = (hidden & 0x66) == 0;
            Check.is(x.may(0, 1, 2), meets);
        }
        for (int name = 0; name < 4; name++) {
            x.hide(0, name, false);
            x.hide(1, name, false);
        }
        Check.is(x.must(0, 1, 2), true);
    }

    /** Parts of one side meet within it, by its own names, and not by those of the other one. */
    private static void meetingsWithin() {
        ObservantYard x = Yards.withAgents(5);
        x.addBranch(0, 'o', 0, 0, 2);
        x.addBranch(1, 'i', 0, 0, 3);
        x.addSystem(4, 0);
        x.addSystem(0, 0);
        x.addPart(1, 1, 0);
        Check.is(x.may(0, 1, 3), true);
        Check.is(x.must(0, 1, 3), true);
        x.hide(1, 0, true);
        Check.is(x.must(0, 1, 3), true);
        x.setPart(1, 1, 4, 0);
        x.setPart(0, 0, 1, 0);
        Check.is(x.may(0, 1, 2), false);
        x.hide(1, 0, false);
        Check.is(x.must(0, 1, 2), true);
        x.addPart(0, 0, 0);
        Check.is(x.may(0, 1, 2), true);
        Check.is(x.must(0, 1, 2), false);
    }

    // ---- rows that end, and rows that do not

    private static void rows() {
        ObservantYard x = Yards.withAgents(4);
        x.addSystem(0, 0);
        x.addSystem(1, 0);
        both(x, 1, true, true);
        both(x, 2, false, false);
        x.addBranch(0, 't', 0, 0, 0);
        both(x, 1, true, true);
        both(x, 2, false, false);
        x.addBranch(1, 't', 0, 0, 2);
        both(x, 1, true, true);
        both(x, 2, true, false);
        x.dropBranch(0, 0);
        both(x, 2, true, true);
        x.addBranch(2, 't', 0, 0, 2);
        both(x, 2, true, true);
        both(x, 3, false, false);
        x.addBranch(2, 't', 0, 0, 3);
        both(x, 2, true, true);
        both(x, 3, true, false);
        Check.is(x.may(1, 1, 3), true);
        Check.is(x.must(1, 1, 1), true);
        Check.is(x.must(1, 1, 2), false);
        x.dropBranch(2, 0);
        Check.is(x.must(1, 1, 2), true);
        Check.is(x.must(1, 1, 3), true);
        both(x, 3, true, true);
    }

    private static void both(ObservantYard x, int content, boolean may, boolean must) {
        Check.is(x.may(0, 1, content), may);
        Check.is(x.must(0, 1, content), must);
    }

    public static void main(String[] args) {
        systemsAndAgents();
        upToSixHundred();
        refusedAtSixHundredAndOne();
        labelsThatMeet();
        hiddenBySides();
        meetingsWithin();
        rows();
        Check.end();
    }
}
