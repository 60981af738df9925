import java.util.Random;

/** Promises 23 and 24: random systems and states that are apart by traces, as the model tells, whatever the room. */
public final class ApartTest {
    private final Random random;
    private final ObservantYard yard = new ObservantYard();
    private final NaiveYard model = new NaiveYard();

    private ApartTest(long seed) {
        random = new Random(seed);
    }

    private void branch(int agent, char kind, int value, int next) {
        yard.addBranch(agent, kind, 0, value, next);
        model.addBranch(agent, kind, 0, value, next);
    }

    /** The agents of the second system are those of the first one, but for a branch that leads elsewhere. */
    private void addAll() {
        int agents = 3 + random.nextInt(6);
        for (int agent = 0; agent < 2 * agents; agent++) {
            yard.addAgent();
            model.addAgent();
        }
        int branches = agents * (2 + random.nextInt(2));
        for (int branch = 0; branch < branches; branch++) {
            int agent = branch % agents;
            char kind = random.nextInt(8) == 0 ? 't' : 'o';
            int value = random.nextInt(2);
            int next = random.nextInt(agents);
            branch(agent, kind, value, next);
            branch(agents + agent, kind, value, agents + (branch == 0 ? (next + 1) % agents : next));
        }
        for (int system = 0; system < 2; system++) {
            int agent = system * agents + 1;
            yard.addSystem(agent, 0);
            model.addSystem(agent, 0);
        }
    }

    private boolean isApart() {
        addAll();
        if (model.isAlike(0, 1, 't')) {
            return false;
        }
        Check.is(yard.isAlike(0, 1, 't'), false);
        Check.is(yard.isAlike(1, 0, 't'), false);
        statesApart();
        return true;
    }

    /** What was looked at for one pair of states must be nothing to the next one. */
    private void statesApart() {
        int states = model.countStates(0);
        for (int turn = 0; turn < 8; turn++) {
            int state = random.nextInt(states);
            int other = random.nextInt(states);
            if (!model.areAlike(0, state, other, 't')) {
                Check.is(yard.areAlike(0, state, other, 't'), false);
                Check.is(yard.areAlike(0, other, state, 't'), false);
            }
        }
    }

    public static void main(String[] args) {
        int apart = 0;
        for (long seed = 1; seed <= 6000; seed++) {
            if (new ApartTest(seed).isApart()) {
                apart++;
            }
        }
        Check.is(apart > 1500, true);
        Check.end();
    }
}
