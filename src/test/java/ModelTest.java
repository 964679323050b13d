import java.util.Random;

/** Long runs by a seed, each answer beside that of the Model, with the digest behind each call. */
public final class ModelTest {
    /** An object is promised for 512 calls; a call with the digest behind it makes two. */
    private static final int RUNS = 1200, LAST_CALL = 510;
    private static final String[] WORDS = {"lake", "cell", "week", "voter", "lakes", "x"};

    private final Random random;
    private final IceVote it = new IceVote();
    private final Model model = new Model();
    private int voters = 0;
    private int used = 0;

    private ModelTest(int seed) {
        random = new Random(seed);
    }

    public static void main(String[] args) {
        // Behind the first wrong answer all others of its run may be wrong too.
        for (int seed = 0; seed < RUNS && Due.wrong() == 0; seed++) {
            new ModelTest(seed).run("run " + seed + ": ");
        }
        Due.end();
    }

    private void run(String about) {
        if (random.nextInt(3) > 0) {
            settle(about);
        }
        boolean texts = random.nextInt(4) == 0;
        while (used < LAST_CALL && Due.wrong() == 0) {
            if (texts && random.nextInt(20) == 0) {
                read(about);
            } else {
                Calls call = Calls.values()[random.nextInt(Calls.values().length)];
                // A lake told anew too often would hold nothing worth asking for.
                if (call != Calls.LAKE && call != Calls.READ || random.nextInt(10) == 0) {
                    both(about, call, numbers(call));
                }
            }
        }
    }

    private void settle(String about) {
        both(about, Calls.LAKE, random.nextInt(random.nextBoolean() ? 100 : 30));
        int kinds = random.nextInt(26);
        for (int i = 0; i < kinds; i++) {
            both(about, Calls.CELL, random.nextInt(25), random.nextInt(6));
        }
        for (int d = 0; d < 7; d++) {
            both(about, Calls.WEATHER, d, random.nextInt(10), random.nextInt(random.nextBoolean() ? 10 : 4));
        }
        int some = random.nextInt(8);
        for (int v = 0; v < some; v++) {
            int weight = random.nextBoolean() ? 10 + 10 * random.nextInt(4) : 1 + random.nextInt(99);
            both(about, Calls.VOTER, random.nextInt(6), weight, random.nextInt(25));
        }
        int broken = random.nextInt(10);
        for (int i = 0; i < broken; i++) {
            if (random.nextBoolean()) {
                both(about, Calls.STONE, random.nextInt(25));
            } else {
                both(about, Calls.TREAD, random.nextInt(25), 1 + random.nextInt(99));
            }
        }
    }

    private int[] numbers(Calls call) {
        int[] numbers = new int[call.numbers()];
        for (int i = 0; i < numbers.length; i++) {
            int least = call.least(i);
            int most = Math.min(call.most(i, voters), least + 1000000);
            boolean small = call == Calls.PATH && i == 3;
            int range = small ? 12 : Math.max(1, most - least + 1);
            numbers[i] = least + random.nextInt(range);
            if (random.nextInt(4) == 0) {
                numbers[i] = random.nextBoolean() ? least : most;
            }
            if (random.nextInt(60) == 0) {
                numbers[i] = random.nextBoolean() ? least - 1 : most + 1;
            }
        }
        if (call == Calls.NOTE && random.nextInt(3) > 0) {
            numbers[4] = Math.max(0, Math.min(99, numbers[1] + numbers[2] - numbers[3] + random.nextInt(4) - 2));
        }
        return numbers;
    }

    private void read(String about) {
        both(about, Calls.CLEAR);
        String text = text();
        for (int i = 0; i < text.length() && i < 150; i++) {
            if (used < LAST_CALL) {
                Due.due(about + "type", it.type(text.charAt(i)), model.answer(Calls.TYPE, text.charAt(i)));
                used++;
            }
        }
        both(about + "[" + text + "] ", Calls.READ);
    }

    /** A text that tells a lake, but for a fault or two now and then. */
    private String text() {
        StringBuilder text = new StringBuilder("lake ").append(random.nextInt(100)).append(';');
        int items = random.nextInt(9);
        for (int i = 0; i < items; i++) {
            String word = WORDS[random.nextInt(random.nextInt(5) == 0 ? WORDS.length : 4)];
            if (word.equals("lake") && random.nextInt(4) > 0) {
                word = "voter";
            }
            text.append(random.nextBoolean() ? " " : "").append(word);
            int numbers = word.equals("voter") ? 3 : word.equals("week") ? 2 + 2 * random.nextInt(3) : 1 + random.nextInt(5);
            for (int n = 0; n < numbers; n++) {
                text.append(' ').append(random.nextInt(n == 0 || word.equals("week") ? 6 : 25));
            }
            text.append(random.nextInt(8) == 0 ? " ;" : ";");
        }
        if (text.length() > 150) {
            text.setLength(150 - random.nextInt(40));
        }
        int changes = random.nextInt(3);
        for (int i = 0; i < changes; i++) {
            int place = random.nextInt(text.length());
            String with = "; 0123456789lakecellweekvoterA-\t";
            char c = with.charAt(random.nextInt(with.length()));
            if (random.nextBoolean()) {
                text.setCharAt(place, c);
            } else {
                text.deleteCharAt(place);
            }
            if (text.length() == 0) {
                break;
            }
        }
        return text.toString();
    }

    private void both(String about, Calls call, int... numbers) {
        if (used < LAST_CALL) {
            Due.due(about + call.told(numbers), call.on(it, numbers), model.answer(call, numbers));
            Due.due(about + "digest behind " + call.told(numbers), it.digest(), model.answer(Calls.DIGEST));
            used += 2;
            voters = (int) model.answer(Calls.COUNT, 0);
        }
    }
}
