/**
 * "Edits" of the terms: agents, branches and systems can be changed any time, and all that is asked then is of what is
 * there. Each edit stands between each question and the same question: that is answered then as by an object that was
 * asked nothing before.
 */
public final class EditsTest {
    private static final Yards.Call[] EDITS = {
        x -> x.addAgent(), x -> x.addBranch(0, 'o', 0, 0, 5), x -> x.addBranch(3, 't', 0, 0, 13),
        x -> x.addBranch(12, 'i', 4, 4, 2), x -> x.addBranch(14, 'e', 0, 1, 0), x -> x.dropBranch(0, 1),
        x -> x.dropBranch(5, 0), x -> x.dropBranch(11, 0), x -> x.lead(4, 0, 12), x -> x.lead(11, 0, 11),
        x -> x.lead(10, 0, 5), x -> x.addSystem(13, 3), x -> x.addPart(Yards.SMALL, 14, 1),
        x -> x.addPart(Yards.STOPPED, 11, 2), x -> x.setPart(Yards.SMALL, 0, 6, 2),
        x -> x.setPart(Yards.BIG, 2, 12, 0), x -> x.setPart(Yards.TOO_BIG, 1, 6, 3),
        x -> x.setPart(Yards.SHORTER, 0, 11, 1), x -> x.setPart(Yards.STOPPED, 0, 12, 1),
        x -> x.hide(Yards.SMALL, 0, true), x -> x.hide(Yards.SMALL, 2, true), x -> x.hide(Yards.BIG, 2, true),
        x -> x.hide(Yards.BIG, 3, false), x -> x.hide(Yards.TOO_BIG, 1, true), x -> x.hide(Yards.SHORTER, 0, true),
        x -> x.copy(Yards.BIG), x -> x.copy(Yards.SMALL), x -> x.addNot(9), x -> x.addStep('w', 203, 0),
        x -> x.addReach(10),
    };

    /** Formula 39 is there if an edit makes it, and so is system 5. */
    private static final Yards.Call[] QUESTIONS = {
        x -> x.countBranches(0), x -> x.countBranches(14), x -> x.countParts(Yards.SMALL), x -> x.countParts(5),
        x -> x.countStates(Yards.SMALL), x -> x.countStates(Yards.BIG), x -> x.countStates(Yards.TOO_BIG),
        x -> x.countSteps(Yards.SMALL, 0), x -> x.countSteps(Yards.BIG, 1), x -> x.countSteps(Yards.SHORTER, 120),
        x -> x.getLabel(Yards.BIG, 0, 1), x -> x.getLabel(Yards.SMALL, 0, 0), x -> x.getTarget(Yards.BIG, 7, 0),
        x -> x.getTarget(Yards.SMALL, 0, 2), x -> x.getAgent(Yards.BIG, 9, 1), x -> x.getAgent(Yards.SMALL, 0, 0),
        x -> x.getAgent(Yards.SMALL, 1, 1), x -> x.getKept(Yards.STOPPED, 0, 0),
        x -> x.getKept(Yards.SMALL, 2, 0), x -> x.getKept(Yards.BIG, 149, 2),
        x -> x.countStuck(Yards.BIG), x -> x.countStuck(Yards.SMALL), x -> x.canChatter(Yards.SMALL),
        x -> x.canChatter(Yards.SHORTER), x -> x.canShow(Yards.SMALL, 202), x -> x.canShow(Yards.BIG, 0),
        x -> x.canShow(Yards.STOPPED, 100), x -> x.stepsToStuck(Yards.BIG), x -> x.stepsToStuck(Yards.SMALL),
        x -> x.isAlike(Yards.BIG, Yards.SHORTER, 's'), x -> x.isAlike(Yards.BIG, Yards.SHORTER, 'w'),
        x -> x.isAlike(Yards.SMALL, Yards.STOPPED, 'b'), x -> x.isAlike(Yards.SHORTER, Yards.BIG, 't'),
        x -> x.isAlike(Yards.TOO_BIG, Yards.BIG, 't'), x -> x.areAlike(Yards.SMALL, 0, 1, 's'),
        x -> x.areAlike(Yards.BIG, 3, 4, 'w'), x -> x.areAlike(Yards.BIG, 140, 149, 'b'),
        x -> x.areAlike(Yards.SHORTER, 0, 9, 't'), x -> x.countClasses(Yards.BIG, 's'),
        x -> x.countClasses(Yards.SHORTER, 'w'), x -> x.countClasses(Yards.SMALL, 'b'),
        x -> x.simulates(Yards.BIG, Yards.SHORTER), x -> x.simulates(Yards.SMALL, Yards.STOPPED),
        x -> x.simulates(Yards.STOPPED, Yards.SMALL), x -> x.roundsApart(Yards.BIG, Yards.SHORTER),
        x -> x.roundsApart(Yards.SMALL, Yards.STOPPED), x -> x.firstStep(Yards.BIG, Yards.SHORTER),
        x -> x.firstStep(Yards.STOPPED, Yards.SMALL), x -> x.countTraces(Yards.SMALL, 1),
        x -> x.countTraces(Yards.BIG, 2), x -> x.getDepth(38), x -> x.getDepth(39), x -> x.holds(Yards.BIG, 12),
        x -> x.holds(Yards.SMALL, 13), x -> x.holds(Yards.SMALL, 39), x -> x.countHolding(Yards.BIG, 10),
        x -> x.countHolding(Yards.SHORTER, 39), x -> x.tellingFormula(Yards.BIG, Yards.SMALL),
        x -> x.tellingFormula(Yards.SMALL, Yards.STOPPED), x -> x.tellingFormula(Yards.BIG, Yards.SHORTER),
        x -> x.may(Yards.STOPPED, Yards.BIG, 12), x -> x.may(Yards.SMALL, Yards.SHORTER, 13),
        x -> x.must(Yards.STOPPED, Yards.BIG, 11), x -> x.must(Yards.SMALL, Yards.STOPPED, 12),
        x -> x.silentShare(Yards.BIG), x -> x.silentShare(Yards.STOPPED), x -> x.meanSteps(Yards.SHORTER),
        x -> x.meanSteps(Yards.SMALL), x -> x.checksum(Yards.SMALL), x -> x.checksum(Yards.BIG),
        x -> x.checksum(Yards.TOO_BIG), x -> x.checksum(Yards.STOPPED), x -> x.checksum(Yards.SHORTER),
        x -> x.checksum(5), ObservantYard::isSound,
    };

    private static Object answerAfter(int edit, int question, boolean isAskedBefore) {
        ObservantYard x = Yards.NEARLY_FULL.make();
        if (isAskedBefore) {
            Yards.answer(x, QUESTIONS[question]);
        }
        EDITS[edit].of(x);
        return Yards.answer(x, QUESTIONS[question]);
    }

    /** Whether it makes a difference to the question at all is counted, lest the questions ask beside the edits. */
    public static void main(String[] args) {
        int[] different = new int[EDITS.length];
        for (int question = 0; question < QUESTIONS.length; question++) {
            Object before = Yards.answer(Yards.NEARLY_FULL.make(), QUESTIONS[question]);
            for (int edit = 0; edit < EDITS.length; edit++) {
                Object due = answerAfter(edit, question, false);
                different[edit] += due.equals(before) ? 0 : 1;
                Check.is(answerAfter(edit, question, true), due);
            }
        }
        for (int edit = 1; edit < EDITS.length; edit++) {
            Check.is(different[edit] > 0 ? "" : "edit " + edit, "");
        }
        Check.end();
    }
}
