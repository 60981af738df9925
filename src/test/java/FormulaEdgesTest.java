/** Promises 30 to 37 and "Formulas" of the terms, at their limits. */
public final class FormulaEdgesTest {
    private static final int[] LABELS = {
        0, 100, 101, 102, 103, 110, 111, 112, 113, 120, 121, 122, 123, 130, 131, 132, 133,
        200, 201, 202, 203, 210, 211, 212, 213, 220, 221, 222, 223, 230, 231, 232, 233,
    };

    private static final int[] NO_LABELS = {
        -1, 1, 3, 10, 99, 104, 109, 114, 124, 134, 140, 143, 199, 204, 214, 234, 240, 243, 299, 300, 333, 1000, 1100, 1200,
        Yards.LOW, Yards.HIGH,
    };

    interface FormulaCall {
        Object of(ObservantYard x, int formula);
    }

    interface HoldingCall {
        Object of(ObservantYard x, int system, int formula);
    }

    /** Each way to make a formula of another one, on either side. */
    private static final FormulaCall[] MADE_OF = {
        ObservantYard::addNot, ObservantYard::addReach,
        (x, formula) -> x.addBoth(formula, 0), (x, formula) -> x.addBoth(0, formula),
        (x, formula) -> x.addBoth(formula, formula),
        (x, formula) -> x.addStep('d', 0, formula), (x, formula) -> x.addStep('w', 233, formula),
    };

    private static final HoldingCall[] OF_HOLDING = {ObservantYard::holds, ObservantYard::countHolding};

    // ---- promises 30 to 33

    /** 39 is the last number, 8 the greatest depth; no such formula is told ahead of both. */
    private static void madeOfOthers() {
        for (FormulaCall call : MADE_OF) {
            for (int formula : new int[] {0, 6, 7, 38}) {
                Yards.taken(Yards.NEARLY_FULL, 39, x -> call.of(x, formula));
                Yards.refused(Yards.FULL, Yards.NO_ROOM, x -> call.of(x, formula));
            }
            Yards.refused(Yards.NEARLY_FULL, Yards.NO_ROOM, x -> call.of(x, 8));
            Yards.refused(Yards.FULL, Yards.NO_ROOM, x -> call.of(x, 8));
            Yards.refused(Yards.FULL, Yards.NO_ROOM, x -> call.of(x, 39));
            for (int wrong : Yards.NO_FORMULA_YET) {
                Yards.refused(Yards.NEARLY_FULL, Yards.NO_INDEX, x -> call.of(x, wrong));
            }
            for (int wrong : Yards.NO_FORMULA) {
                Yards.refused(Yards.FULL, Yards.NO_INDEX, x -> call.of(x, wrong));
            }
            upToForty(call);
            upToDepthEight(call);
        }
        for (int wrong : Yards.NO_FORMULA_YET) {
            Yards.refused(Yards.NEARLY_FULL, Yards.NO_INDEX, x -> x.addBoth(8, wrong));
            Yards.refused(Yards.NEARLY_FULL, Yards.NO_INDEX, x -> x.addBoth(wrong, 8));
        }
        Yards.refused(Yards.NEARLY_FULL, Yards.NO_ROOM, x -> x.addBoth(7, 8));
        Yards.taken(Yards.NEARLY_FULL, 39, x -> x.addBoth(7, 7));
    }

    private static void upToForty(FormulaCall call) {
        ObservantYard x = new ObservantYard();
        for (int formula = 1; formula < 40; formula++) {
            Check.is(call.of(x, 0), formula);
            Check.is(x.getDepth(formula), 1);
        }
        Check.noRoom(() -> call.of(x, 0));
        Check.noRoom(() -> call.of(x, 39));
        Check.noIndex(() -> call.of(x, 40));
        Check.is(x.getDepth(39), 1);
    }

    private static void upToDepthEight(FormulaCall call) {
        ObservantYard x = new ObservantYard();
        for (int depth = 1; depth <= 8; depth++) {
            Check.is(call.of(x, depth - 1), depth);
            Check.is(x.getDepth(depth), depth);
        }
        for (int turn = 0; turn < 3; turn++) {
            Check.noRoom(() -> call.of(x, 8));
            Check.is(x.getDepth(8), 8);
        }
        Check.noIndex(() -> x.getDepth(9));
        Check.is(call.of(x, 7), 9);
        Check.is(x.getDepth(9), 8);
        Check.noRoom(() -> call.of(x, 9));
        Check.is(call.of(x, 0), 10);
        Check.is(x.getDepth(10), 1);
    }

    private static void addStep() {
        for (char kind : new char[] {'d', 'w'}) {
            ObservantYard x = new ObservantYard();
            for (int made = 0; made < LABELS.length; made++) {
                Check.is(x.addStep(kind, LABELS[made], 0), made + 1);
            }
            for (int wrong : NO_LABELS) {
                Yards.refused(Yards.NEARLY_FULL, Yards.BAD_ARGUMENT, y -> y.addStep(kind, wrong, 0));
                Yards.refused(Yards.NEARLY_FULL, Yards.BAD_ARGUMENT, y -> y.addStep(kind, wrong, 8));
                Yards.refused(Yards.FULL, Yards.BAD_ARGUMENT, y -> y.addStep(kind, wrong, 0));
                Yards.refused(Yards.FULL, Yards.NO_INDEX, y -> y.addStep(kind, wrong, 40));
            }
            char[] wrongs = {(char) (kind - 1), (char) (kind + 1), (char) (kind - 32), (char) (kind + 256),
                (char) (kind + 128), 0, 'r', 'n', 's', 'b', 't', 'i', 0xffff};
            for (char wrong : wrongs) {
                Yards.refused(Yards.NEARLY_FULL, Yards.BAD_ARGUMENT, y -> y.addStep(wrong, 0, 0));
                Yards.refused(Yards.NEARLY_FULL, Yards.BAD_ARGUMENT, y -> y.addStep(wrong, 100, 8));
                Yards.refused(Yards.FULL, Yards.BAD_ARGUMENT, y -> y.addStep(wrong, 233, 0));
                Yards.refused(Yards.NEARLY_FULL, Yards.NO_INDEX, y -> y.addStep(wrong, 233, 39));
                Yards.refused(Yards.FULL, Yards.NO_INDEX, y -> y.addStep(wrong, -1, -1));
            }
        }
    }

    // ---- promise 34

    /** 0 for the first one, otherwise 1 more than the greatest of those of which it is made. */
    private static void getDepth() {
        Yards.taken(Yards.NEW, 0, x -> x.getDepth(0));
        Yards.refused(Yards.NEW, Yards.NO_INDEX, x -> x.getDepth(1));
        Yards.taken(Yards.FULL, 8, x -> x.getDepth(8));
        Yards.taken(Yards.FULL, 1, x -> x.getDepth(39));
        for (int wrong : Yards.NO_FORMULA) {
            Yards.refused(Yards.FULL, Yards.NO_INDEX, x -> x.getDepth(wrong));
        }
        for (int wrong : Yards.NO_FORMULA_YET) {
            Yards.refused(Yards.NEARLY_FULL, Yards.NO_INDEX, x -> x.getDepth(wrong));
        }
        for (int one = 0; one <= 7; one++) {
            ObservantYard x = Yards.NEW.make();
            for (int depth = 1; depth <= 8; depth++) {
                x.addReach(depth - 1);
            }
            for (int other = 0; other <= 7; other++) {
                Check.is(x.getDepth(x.addBoth(one, other)), 1 + Math.max(one, other));
            }
            int asked = one;
            Check.noRoom(() -> x.addBoth(asked, 8));
            Check.noRoom(() -> x.addBoth(8, asked));
            Check.noIndex(() -> x.getDepth(17));
        }
    }

    // ---- promises 35 to 37

    private static void holding() {
        for (HoldingCall call : OF_HOLDING) {
            for (int wrong : Yards.NO_SYSTEM) {
                Yards.refused(Yards.FULL, Yards.NO_INDEX, x -> call.of(x, wrong, 0));
                Yards.refused(Yards.FULL, Yards.NO_INDEX, x -> call.of(x, wrong, 40));
            }
            for (int wrong : Yards.NO_FORMULA) {
                Yards.refused(Yards.FULL, Yards.NO_INDEX, x -> call.of(x, Yards.BIG, wrong));
                Yards.refused(Yards.FULL, Yards.NO_INDEX, x -> call.of(x, Yards.TOO_BIG, wrong));
            }
            Yards.refused(Yards.NEARLY_FULL, Yards.NO_INDEX, x -> call.of(x, 5, 0));
            Yards.refused(Yards.NEARLY_FULL, Yards.NO_INDEX, x -> call.of(x, 0, 39));
            for (int formula : new int[] {0, 1, 8, 39}) {
                Yards.refused(Yards.FULL, Yards.TOO_MANY, x -> call.of(x, Yards.TOO_BIG, formula));
                call.of(Yards.FULL.make(), 5, formula);
            }
        }
    }

    /** Of 150 states 4 times 4 have no silent step, 9 nothing more to receive; 10 and 15 receive next, one does twice. */
    private static void ofBig() {
        ObservantYard x = Yards.FULL.make();
        for (int depth = 0; depth <= 8; depth++) {
            holds(x, depth, depth % 2 == 0, depth % 2 == 0 ? 150 : 0);
        }
        holds(x, 9, true, 150 - 4 * 4);
        holds(x, 10, true, 150 - 9);
        holds(x, 11, true, 150 - 4 * 4);
        holds(x, 12, true, 150 - 4 * 4);
        for (int formula = 13; formula < 39; formula++) {
            holds(x, formula, false, 10 + 15 - 1);
        }
        holds(x, 39, false, 0);
    }

    private static void holds(ObservantYard x, int formula, boolean atFirst, int states) {
        Check.is(x.holds(Yards.BIG, formula), atFirst);
        Check.is(x.countHolding(Yards.BIG, formula), states);
    }

    /** Whatever a formula holds of a state without steps: a silent answer of none, and coming to it by none. */
    private static void ofStopped() {
        ObservantYard x = Yards.withAgents(1);
        x.addSystem(0, 0);
        Check.is(x.addNot(0), 1);
        for (int label : new int[] {0, 100, 233}) {
            Check.is(x.holds(0, x.addStep('d', label, 0)), false);
            Check.is(x.holds(0, x.addStep('w', label, 0)), label == 0);
            Check.is(x.holds(0, x.addStep('w', label, 1)), false);
        }
        Check.is(x.holds(0, x.addReach(0)), true);
        Check.is(x.holds(0, x.addReach(1)), false);
        Check.is(x.holds(0, x.addBoth(0, 0)), true);
        Check.is(x.holds(0, x.addBoth(0, 1)), false);
        Check.is(x.holds(0, x.addBoth(1, 0)), false);
        Check.is(x.holds(0, x.addNot(1)), true);
        Check.is(x.countHolding(0, 0), 1);
        Check.is(x.countHolding(0, 1), 0);
    }

    private static void tellingFormula() {
        for (int wrong : Yards.NO_SYSTEM) {
            for (int system : new int[] {Yards.BIG, Yards.TOO_BIG, wrong}) {
                Yards.refused(Yards.FULL, Yards.NO_INDEX, x -> x.tellingFormula(wrong, system));
                Yards.refused(Yards.FULL, Yards.NO_INDEX, x -> x.tellingFormula(system, wrong));
            }
        }
        Yards.refused(Yards.NEARLY_FULL, Yards.NO_INDEX, x -> x.tellingFormula(0, 5));
        Yards.refused(Yards.NEARLY_FULL, Yards.NO_INDEX, x -> x.tellingFormula(5, 0));
        for (int system = 0; system < 6; system++) {
            int there = system;
            Yards.refused(Yards.FULL, Yards.TOO_MANY, x -> x.tellingFormula(Yards.TOO_BIG, there));
            Yards.refused(Yards.FULL, Yards.TOO_MANY, x -> x.tellingFormula(there, Yards.TOO_BIG));
            if (system != Yards.TOO_BIG) {
                Yards.refused(Yards.FULL, Yards.NO_ELEMENT, x -> x.tellingFormula(there, there));
            }
        }
        Yards.refused(Yards.FULL, Yards.NO_ELEMENT, x -> x.tellingFormula(Yards.BIG, Yards.SHORTER));
        Yards.taken(Yards.FULL, 9, x -> x.tellingFormula(Yards.BIG, Yards.SMALL));
        Yards.taken(Yards.FULL, 9, x -> x.tellingFormula(Yards.SMALL, Yards.BIG));
        Yards.taken(Yards.FULL, 10, x -> x.tellingFormula(Yards.SMALL, Yards.STOPPED));
        Yards.taken(Yards.FULL, 10, x -> x.tellingFormula(Yards.STOPPED, Yards.SMALL));
        firstOrLast();
    }

    /** With the formula that is true everywhere alone none tells; 1 can be the lowest, and 39. */
    private static void firstOrLast() {
        ObservantYard x = Yards.withAgents(2);
        x.addBranch(0, 'o', 0, 0, 1);
        x.addSystem(0, 0);
        x.addSystem(1, 0);
        Check.noElement(() -> x.tellingFormula(0, 1));
        x.addStep('d', 100, 0);
        Check.is(x.tellingFormula(0, 1), 1);
        x.addNot(1);
        Check.is(x.tellingFormula(1, 0), 1);
        x.hide(0, 0, true);
        for (int formula = 3; formula < 39; formula++) {
            x.addStep('w', 100, 0);
            Check.noElement(() -> x.tellingFormula(0, 1));
        }
        x.addStep('w', 233, 0);
        Check.noElement(() -> x.tellingFormula(1, 0));
        Check.noRoom(() -> x.addNot(0));
        x.addBranch(1, 'i', 3, 3, 0);
        Check.is(x.tellingFormula(0, 1), 39);
        Check.is(x.tellingFormula(1, 0), 39);
        x.addBranch(0, 'i', 3, 4, 1);
        Check.noElement(() -> x.tellingFormula(0, 1));
    }

    public static void main(String[] args) {
        madeOfOthers();
        addStep();
        getDepth();
        holding();
        ofBig();
        ofStopped();
        tellingFormula();
        Check.end();
    }
}
