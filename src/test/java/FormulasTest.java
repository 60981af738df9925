/** Promises 30 to 37: formulas. */
public final class FormulasTest {
    /** Agent 0 sends 1 to agent 1, or goes silently to 2; 1 goes silently to 2, which receives 2 or 3 along 1 and stops. */
    private static ObservantYard small() {
        ObservantYard x = new ObservantYard();
        for (int agent = 0; agent < 4; agent++) {
            x.addAgent();
        }
        x.addBranch(0, 'o', 0, 1, 1);
        x.addBranch(0, 't', 0, 0, 2);
        x.addBranch(1, 't', 0, 0, 2);
        x.addBranch(2, 'i', 1, 2, 3);
        x.addBranch(2, 'i', 1, 3, 3);
        x.addSystem(0, 0);
        return x;
    }

    private static void numbersAndDepths() {
        ObservantYard x = new ObservantYard();
        Check.is(x.getDepth(0), 0);
        Check.is(x.addNot(0), 1);
        Check.is(x.getDepth(1), 1);
        Check.is(x.addBoth(1, 0), 2);
        Check.is(x.getDepth(2), 2);
        Check.is(x.addBoth(0, 2), 3);
        Check.is(x.getDepth(3), 3);
        Check.is(x.addBoth(1, 1), 4);
        Check.is(x.getDepth(4), 2);
        Check.is(x.addStep('d', 233, 3), 5);
        Check.is(x.getDepth(5), 4);
        Check.is(x.addStep('w', 0, 0), 6);
        Check.is(x.getDepth(6), 1);
        Check.is(x.addReach(5), 7);
        Check.is(x.getDepth(7), 5);
        Check.is(x.addReach(0), 8);
        Check.is(x.getDepth(8), 1);
        for (int wrong : new int[] {-1, 9, 40, Integer.MAX_VALUE, Integer.MIN_VALUE}) {
            wrongFormula(x, wrong);
        }
        Check.is(x.addNot(8), 9);
    }

    private static void wrongFormula(ObservantYard x, int wrong) {
        Check.noIndex(() -> x.getDepth(wrong));
        Check.noIndex(() -> x.addNot(wrong));
        Check.noIndex(() -> x.addBoth(wrong, 0));
        Check.noIndex(() -> x.addBoth(0, wrong));
        Check.noIndex(() -> x.addStep('d', 0, wrong));
        Check.noIndex(() -> x.addStep('x', 1, wrong));
        Check.noIndex(() -> x.addReach(wrong));
    }

    private static void upToDepthEight() {
        ObservantYard x = new ObservantYard();
        for (int depth = 1; depth <= 8; depth++) {
            int before = depth - 1;
            Check.is(switch (depth % 4) {
                case 0 -> x.addNot(before);
                case 1 -> x.addBoth(0, before);
                case 2 -> x.addStep('w', 100, before);
                default -> x.addReach(before);
            }, depth);
            Check.is(x.getDepth(depth), depth);
        }
        Check.noRoom(() -> x.addNot(8));
        Check.noRoom(() -> x.addBoth(8, 0));
        Check.noRoom(() -> x.addBoth(0, 8));
        Check.noRoom(() -> x.addStep('d', 100, 8));
        Check.noRoom(() -> x.addReach(8));
        Check.badArgument(() -> x.addStep('d', 104, 8));
        Check.badArgument(() -> x.addStep('r', 100, 8));
        Check.noIndex(() -> x.getDepth(9));
        Check.is(x.addNot(7), 9);
        Check.is(x.getDepth(9), 8);
    }

    private static void upToForty() {
        ObservantYard x = new ObservantYard();
        for (int formula = 1; formula < 40; formula++) {
            Check.is(x.addNot(0), formula);
        }
        Check.noRoom(() -> x.addNot(0));
        Check.noRoom(() -> x.addBoth(0, 39));
        Check.noRoom(() -> x.addStep('w', 0, 0));
        Check.noRoom(() -> x.addReach(39));
        wrongFormula(x, 40);
        Check.badArgument(() -> x.addStep('w', -1, 0));
        Check.badArgument(() -> x.addStep('W', 0, 0));
        Check.is(x.getDepth(39), 1);
        x.addAgent();
        x.addSystem(0, 0);
        Check.is(x.holds(0, 39), false);
        Check.is(x.countHolding(0, 39), 0);
    }

    private static void kindsAndLabels() {
        ObservantYard x = new ObservantYard();
        for (char wrong : new char[] {'D', 'W', 'r', 'n', 's', 'b', 't', 0, 0x164}) {
            Check.badArgument(() -> x.addStep(wrong, 0, 0));
        }
        for (int wrong : new int[] {-1, 1, 3, 10, 33, 99, 104, 110 - 6, 140, 134, 144, 199, 204, 240, 244, 300, 301, 333,
            1000, 1100, Integer.MAX_VALUE, Integer.MIN_VALUE}) {
            Check.badArgument(() -> x.addStep('d', wrong, 0));
            Check.badArgument(() -> x.addStep('w', wrong, 0));
        }
        int count = 0;
        for (int label : new int[] {0, 100, 103, 130, 133, 111, 200, 203, 230, 233, 222}) {
            count++;
            Check.is(x.addStep('d', label, 0), count);
            count++;
            Check.is(x.addStep('w', label, 0), count);
        }
    }

    /** In which of the four states a formula holds is told by their number and the first one. */
    private static void holding(ObservantYard x, int formula, boolean atFirst, int states) {
        Check.is(x.holds(0, formula), atFirst);
        Check.is(x.countHolding(0, formula), states);
    }

    private static void holds() {
        ObservantYard x = small();
        holding(x, 0, true, 4);
        holding(x, x.addNot(0), false, 0);
        holding(x, x.addStep('d', 101, 0), true, 1);
        holding(x, x.addStep('d', 0, 0), true, 2);
        holding(x, x.addStep('d', 212, 0), false, 1);
        holding(x, x.addStep('w', 212, 0), true, 3);
        holding(x, x.addStep('d', 212, 1), false, 0);
        holding(x, x.addStep('w', 0, 0), true, 4);
        holding(x, x.addStep('w', 0, 2), true, 1);
        holding(x, x.addStep('w', 0, 4), true, 3);
        holding(x, x.addStep('d', 101, 3), true, 1);
        holding(x, x.addStep('d', 101, 4), false, 0);
        holding(x, x.addStep('w', 101, 4), true, 1);
        holding(x, x.addNot(4), true, 3);
        holding(x, x.addBoth(13, 3), true, 2);
        holding(x, x.addBoth(2, 4), false, 0);
        holding(x, x.addBoth(4, 5), false, 1);
        holding(x, x.addReach(4), true, 3);
        holding(x, x.addReach(2), true, 1);
        holding(x, x.addReach(1), false, 0);
        holding(x, x.addReach(15), false, 0);
        int stuck = x.addBoth(x.addBoth(x.addNot(3), x.addNot(4)), x.addNot(2));
        holding(x, stuck, false, 1);
        holding(x, x.addReach(stuck), true, 4);
        holding(x, x.addNot(x.addReach(x.addNot(0))), true, 4);
        Check.is(x.hide(0, 2, true), false);
        holding(x, 4, false, 0);
        holding(x, 13, true, 4);
        holding(x, 17, false, 0);
        x.hide(0, 3, true);
        Check.is(x.countStates(0), 3);
        holding(x, stuck, false, 1);
        holding(x, 0, true, 3);
    }

    /** Behind the label of a weak step silent ones go on, ahead of it, too, round and round. */
    private static void weakSteps() {
        ObservantYard x = new ObservantYard();
        for (int agent = 0; agent < 6; agent++) {
            x.addAgent();
        }
        x.addBranch(0, 't', 0, 0, 1);
        x.addBranch(1, 't', 0, 0, 0);
        x.addBranch(1, 'o', 3, 0, 2);
        x.addBranch(2, 't', 0, 0, 3);
        x.addBranch(3, 't', 0, 0, 2);
        x.addBranch(3, 'o', 0, 3, 4);
        x.addBranch(4, 'o', 3, 0, 5);
        x.addSystem(0, 0);
        holding(x, x.addStep('d', 103, 0), false, 1);
        holding(x, x.addStep('w', 130, 1), true, 2);
        holding(x, x.addStep('w', 130, 0), true, 3);
        holding(x, x.addStep('w', 103, 0), false, 2);
        holding(x, x.addStep('w', 130, 4), true, 2);
        holding(x, x.addStep('d', 130, 4), false, 1);
        holding(x, x.addStep('w', 0, 1), false, 2);
        holding(x, x.addStep('d', 0, 1), false, 1);
        holding(x, x.addStep('w', 200, 0), false, 0);
    }

    private static void wrongHolds() {
        ObservantYard x = small();
        x.addNot(0);
        int wide = x.addAgent();
        x.addBranch(wide, 'i', 0, 4, wide);
        x.addBranch(wide, 't', 0, 0, 0);
        int broad = x.addSystem(wide, 0);
        x.addPart(broad, wide, 0);
        x.addPart(broad, wide, 0);
        for (int wrong : new int[] {-1, 2, Integer.MAX_VALUE, Integer.MIN_VALUE}) {
            Check.noIndex(() -> x.holds(wrong, 0));
            Check.noIndex(() -> x.holds(0, wrong));
            Check.noIndex(() -> x.holds(broad, wrong));
            Check.noIndex(() -> x.countHolding(wrong, 0));
            Check.noIndex(() -> x.countHolding(0, wrong));
            Check.noIndex(() -> x.countHolding(broad, wrong));
            Check.noIndex(() -> x.tellingFormula(wrong, 0));
            Check.noIndex(() -> x.tellingFormula(broad, wrong));
        }
        for (int formula = 0; formula < 2; formula++) {
            int asked = formula;
            Check.tooMany(() -> x.holds(broad, asked));
            Check.tooMany(() -> x.countHolding(broad, asked));
        }
        Check.tooMany(() -> x.tellingFormula(0, broad));
        Check.tooMany(() -> x.tellingFormula(broad, 0));
        Check.tooMany(() -> x.tellingFormula(broad, broad));
    }

    private static void tellingFormula() {
        ObservantYard x = small();
        x.addSystem(1, 0);
        x.addSystem(2, 1);
        Check.noElement(() -> x.tellingFormula(0, 1));
        x.addNot(0);
        x.addStep('w', 212, 0);
        Check.noElement(() -> x.tellingFormula(0, 1));
        Check.is(x.addStep('d', 0, 0), 3);
        Check.is(x.addStep('d', 101, 0), 4);
        Check.is(x.addNot(3), 5);
        Check.is(x.tellingFormula(0, 1), 4);
        Check.is(x.tellingFormula(1, 0), 4);
        Check.is(x.tellingFormula(1, 2), 3);
        Check.is(x.tellingFormula(2, 0), 3);
        Check.noElement(() -> x.tellingFormula(0, 0));
        Check.noElement(() -> x.tellingFormula(2, 2));
        x.hide(0, 1, true);
        Check.is(x.tellingFormula(0, 1), 2);
    }

    /** The last of forty formulas is the only one that tells two apart. */
    private static void lastOfForty() {
        ObservantYard x = small();
        x.addSystem(1, 0);
        x.addSystem(0, 0);
        for (int formula = 1; formula < 39; formula++) {
            Check.is(x.addNot(0), formula);
        }
        Check.noElement(() -> x.tellingFormula(0, 1));
        Check.is(x.addStep('w', 101, 0), 39);
        Check.is(x.holds(0, 39), true);
        Check.is(x.countHolding(0, 39), 1);
        Check.is(x.holds(1, 39), false);
        Check.is(x.tellingFormula(0, 1), 39);
        Check.is(x.tellingFormula(1, 2), 39);
        Check.noElement(() -> x.tellingFormula(0, 2));
        Check.is(x.isSound(), true);
    }

    public static void main(String[] args) {
        numbersAndDepths();
        upToDepthEight();
        upToForty();
        kindsAndLabels();
        holds();
        weakSteps();
        wrongHolds();
        tellingFormula();
        lastOfForty();
        Check.end();
    }
}
