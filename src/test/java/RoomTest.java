/** All calls of one run live in one room: what an object makes is made at first, and hardly anything by its calls. */
public final class RoomTest {
    private static final long HARDLY_ANY = 500000;

    private static ObservantYard sixSystems() {
        ObservantYard x = Yards.FULL.make();
        x.setPart(Yards.TOO_BIG, 1, 5, 3);
        return x;
    }

    private static void anObject() {
        Check.is(Room.made(new ObservantYard()) < 300000, true);
        Check.is(Room.made(sixSystems()) < 400000, true);
    }

    /** An edit each time makes the graphs stale, so that they are built again. */
    private static void calls(Yards.Call call) {
        ObservantYard x = sixSystems();
        call.of(x);
        long before = Yards.bytes();
        for (int turn = 0; turn < 180; turn++) {
            x.lead(11, 0, 12);
            call.of(x);
        }
        Check.is(Yards.bytes() - before < HARDLY_ANY, true);
        Check.is(Room.made(x) < 500000, true);
    }

    private static void dearCalls() {
        Yards.Call[] calls = {
            x -> x.countStates(Yards.BIG), x -> x.getTarget(Yards.BIG, 7, 0), x -> x.stepsToStuck(Yards.BIG),
            x -> x.isAlike(Yards.BIG, Yards.SHORTER, 's'), x -> x.isAlike(Yards.BIG, Yards.SHORTER, 'w'),
            x -> x.isAlike(Yards.BIG, Yards.SHORTER, 'b'), x -> x.isAlike(Yards.BIG, Yards.SHORTER, 't'),
            x -> x.countClasses(Yards.BIG, 'w'), x -> x.simulates(Yards.BIG, Yards.TOO_BIG),
            x -> x.roundsApart(Yards.BIG, Yards.SHORTER), x -> x.firstStep(Yards.BIG, Yards.SHORTER),
            x -> x.countTraces(Yards.BIG, 5), x -> x.countHolding(Yards.BIG, 38), x -> x.holds(Yards.TOO_BIG, 12),
            x -> x.tellingFormula(Yards.BIG, Yards.SMALL), x -> x.may(Yards.SMALL, 5, 15),
            x -> x.must(Yards.SMALL, Yards.SHORTER, 15), x -> x.meanSteps(Yards.BIG), x -> x.checksum(Yards.BIG),
            ObservantYard::isSound,
        };
        for (Yards.Call call : calls) {
            calls(call);
        }
    }

    public static void main(String[] args) {
        anObject();
        dearCalls();
        Check.end();
    }
}
