/** Long runs by a seed, each answer beside that of the Model, with the digest behind each call. */
public final class ModelTest {
    private static final int RUNS = 1200;

    public static void main(String[] args) {
        // Behind the first wrong answer all others of its run may be wrong too.
        for (int seed = 0; seed < RUNS && Due.wrong() == 0; seed++) {
            run(new Run("run", seed, true));
        }
        Due.end();
    }

    private static void run(Run run) {
        if (run.random().nextInt(3) > 0) {
            run.settle();
        }
        boolean texts = run.random().nextInt(4) == 0;
        while (run.left() >= 2 && Due.wrong() == 0) {
            if (texts && run.random().nextInt(20) == 0) {
                run.typeAndRead();
            } else {
                Calls call = Calls.values()[run.random().nextInt(Calls.values().length)];
                // A lake told anew too often would hold nothing worth asking for.
                if (call != Calls.LAKE && call != Calls.READ || run.random().nextInt(10) == 0) {
                    run.drawn(call);
                }
            }
        }
    }
}
