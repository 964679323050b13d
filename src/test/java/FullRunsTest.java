import java.util.ArrayList;
import java.util.Collections;
import java.util.EnumMap;
import java.util.List;
import java.util.Map;

/**
 * Runs of 512 calls on one object, as many as are promised, with every method among them, each
 * answer beside that of the Model; the last call of each is the digest of all that went before.
 */
public final class FullRunsTest {
    private static final int RUNS = 1000;
    /** Each method is answered, not refused, at least so often in all runs together. */
    private static final int LEAST_ANSWERED = 400;

    public static void main(String[] args) {
        Map<Calls, Integer> answered = new EnumMap<>(Calls.class);
        // Behind the first wrong answer all others of its run may be wrong too.
        for (int seed = 0; seed < RUNS && Due.wrong() == 0; seed++) {
            Run run = new Run("full run", seed, false);
            all(run);
            Due.due("calls of full run " + seed, run.used(), Run.MOST_CALLS);
            for (Calls call : Calls.values()) {
                Due.due(call.call + " is among full run " + seed, run.times(call) > 0 ? 1 : 0, 1);
                answered.merge(call, run.answered(call), Integer::sum);
            }
        }
        answered.forEach((call, times) -> Due.due(call.call + " was answered " + times + " times, enough of them",
                times >= LEAST_ANSWERED ? 1 : 0, 1));
        Due.end();
    }

    private static void all(Run run) {
        if (run.random().nextInt(8) > 0) {
            run.settle();
        }
        if (run.random().nextInt(4) == 0) {
            run.toLastDay();
        }
        if (run.random().nextInt(3) == 0) {
            others(run, run.random().nextInt(100)).forEach(run::drawn);
            run.typeAndRead();
        }
        // Each method once, others as they come, in any order, up to the last call but one.
        List<Calls> rest = others(run, run.left() - 1 - Calls.values().length);
        rest.addAll(List.of(Calls.values()));
        Collections.shuffle(rest, run.random());
        rest.forEach(run::drawn);
        run.call(Calls.DIGEST);
    }

    private static List<Calls> others(Run run, int many) {
        List<Calls> others = new ArrayList<>();
        while (others.size() < many) {
            Calls call = Calls.values()[run.random().nextInt(Calls.values().length)];
            // A lake told anew too often would hold nothing worth asking for.
            if (call != Calls.LAKE && call != Calls.READ || run.random().nextInt(10) == 0) {
                others.add(call);
            }
        }
        return others;
    }
}
