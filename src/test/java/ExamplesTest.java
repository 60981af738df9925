/** The four examples of "Terms", call by call. */
public final class ExamplesTest {
    private static void silentStepAhead() {
        ObservantYard x = new ObservantYard();
        Check.is(x.addAgent(), 0);
        Check.is(x.addAgent(), 1);
        Check.is(x.addBranch(0, 'o', 0, 1, 1), 0);
        Check.is(x.addAgent(), 2);
        Check.is(x.addBranch(2, 't', 0, 0, 0), 0);
        Check.is(x.addSystem(0, 0), 0);
        Check.is(x.addSystem(2, 0), 1);
        Check.is(x.isAlike(0, 1, 's'), false);
        Check.is(x.isAlike(0, 1, 'w'), true);
        Check.is(x.isAlike(0, 1, 'b'), true);
        Check.is(x.roundsApart(0, 1), 1);
        Check.is(x.firstStep(0, 1), 1000);
    }

    private static void receivedAndSentOn() {
        ObservantYard x = new ObservantYard();
        Check.is(x.addAgent(), 0);
        Check.is(x.addAgent(), 1);
        Check.is(x.addBranch(0, 'i', 2, 4, 1), 0);
        Check.is(x.addBranch(1, 'o', 4, 3, 0), 0);
        Check.is(x.addSystem(0, 0), 0);
        Check.is(x.countStates(0), 8);
        Check.is(x.countSteps(0, 0), 4);
        Check.is(x.getLabel(0, 0, 3), 223);
        Check.is(x.getTarget(0, 0, 3), 4);
        Check.is(x.getKept(0, 4, 0), 3);
        Check.is(x.getLabel(0, 4, 0), 133);
    }

    private static void untilNameIsHidden() {
        ObservantYard x = new ObservantYard();
        Check.is(x.addAgent(), 0);
        Check.is(x.addAgent(), 1);
        Check.is(x.addBranch(0, 'o', 0, 1, 1), 0);
        Check.is(x.addBranch(0, 'o', 0, 2, 1), 1);
        Check.is(x.addSystem(0, 0), 0);
        Check.is(x.addStep('d', 101, 0), 1);
        Check.is(x.holds(0, 1), true);
        Check.is(x.addNot(1), 2);
        Check.is(x.countHolding(0, 2), 1);
        Check.is(x.hide(0, 1, true), false);
        Check.is(x.holds(0, 1), false);
        Check.is(x.countTraces(0, 1), 1);
    }

    private static void silentWayOut() {
        ObservantYard x = new ObservantYard();
        Check.is(x.addAgent(), 0);
        Check.is(x.addAgent(), 1);
        Check.is(x.addBranch(0, 'o', 0, 1, 1), 0);
        Check.is(x.addAgent(), 2);
        Check.is(x.addAgent(), 3);
        Check.is(x.addBranch(2, 'i', 0, 1, 3), 0);
        Check.is(x.addSystem(0, 0), 0);
        Check.is(x.addSystem(2, 0), 1);
        Check.is(x.may(0, 1, 3), true);
        Check.is(x.must(0, 1, 3), true);
        Check.is(x.addBranch(0, 't', 0, 0, 1), 1);
        Check.is(x.may(0, 1, 3), true);
        Check.is(x.must(0, 1, 3), false);
    }

    public static void main(String[] args) {
        silentStepAhead();
        receivedAndSentOn();
        untilNameIsHidden();
        silentWayOut();
        Check.end();
    }
}
