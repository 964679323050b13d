import java.util.EnumMap;
import java.util.Map;
import java.util.Random;

/** One object beside the Model, used for as many calls as are promised; what is called a seed draws. */
final class Run {
    static final int MOST_CALLS = 512;
    private static final int MOST_BYTES = 150;
    private static final String[] WORDS = {"lake", "cell", "week", "voter", "lakes", "x"};

    private final String about;
    private final boolean digests;
    private final Random random;
    private final IceVote it = new IceVote();
    private final Model model = new Model();
    /** How often each call was made and answered, and was refused. */
    private final Map<Calls, Integer> answered = new EnumMap<>(Calls.class);
    private final Map<Calls, Integer> refused = new EnumMap<>(Calls.class);
    private int voters = 0;
    private int used = 0;

    /** With digests, the digest is asked behind each call. */
    Run(String about, int seed, boolean digests) {
        this.about = about + " " + seed + ": ";
        this.digests = digests;
        random = new Random(seed);
    }

    Random random() {
        return random;
    }

    int used() {
        return used;
    }

    int left() {
        return MOST_CALLS - used;
    }

    int times(Calls call) {
        return answered(call) + refused.getOrDefault(call, 0);
    }

    int answered(Calls call) {
        return answered.getOrDefault(call, 0);
    }

    // ---- calls of both

    void call(Calls call, int... numbers) {
        call("", call, numbers);
    }

    private void call(String more, Calls call, int... numbers) {
        if (left() < (digests ? 2 : 1)) {
            return;
        }
        one(more + call.told(numbers), call, numbers);
        if (digests) {
            one("digest behind " + call.told(numbers), Calls.DIGEST);
        }
        voters = (int) model.answer(Calls.COUNT, 0);
    }

    private void one(String told, Calls call, int... numbers) {
        long due = model.answer(call, numbers);
        Due.due(about + told, call.on(it, numbers), due);
        used++;
        (isRefused(call, due) ? refused : answered).merge(call, 1, Integer::sum);
    }

    private static boolean isRefused(Calls call, long answer) {
        return answer == IceVote.NO || answer == IceVote.FULL || call.numbers() > 0 && answer == call.bad();
    }

    /** By numbers that are mostly as told, often the least or the most, now and then beyond them. */
    void drawn(Calls call) {
        int[] numbers = new int[call.numbers()];
        for (int i = 0; i < numbers.length; i++) {
            numbers[i] = number(call, i);
        }
        if (call == Calls.NOTE && random.nextInt(3) > 0) {
            numbers[4] = Math.max(0, Math.min(99, numbers[1] + numbers[2] - numbers[3] + random.nextInt(4) - 2));
        }
        call(call, numbers);
    }

    private int number(Calls call, int i) {
        int least = call.least(i);
        int most = Math.min(call.most(i, voters), least + 1000000);
        if (random.nextInt(60) == 0) {
            return random.nextBoolean() ? least - 1 : most + 1;
        }
        if (random.nextInt(300) == 0) {
            return random.nextInt();
        }
        if (random.nextInt(4) == 0) {
            return random.nextBoolean() ? least : most;
        }
        boolean steps = call == Calls.PATH && i == 3;
        return least + random.nextInt(steps ? 12 : Math.max(1, most - least + 1));
    }

    // ---- a lake to ask about

    void settle() {
        call(Calls.LAKE, random.nextInt(random.nextBoolean() ? 100 : 30));
        int kinds = random.nextInt(26);
        for (int i = 0; i < kinds; i++) {
            call(Calls.CELL, random.nextInt(25), random.nextInt(6));
        }
        for (int d = 0; d < 7; d++) {
            call(Calls.WEATHER, d, random.nextInt(10), random.nextInt(random.nextBoolean() ? 10 : 4));
        }
        int some = random.nextInt(8);
        for (int v = 0; v < some; v++) {
            int weight = random.nextBoolean() ? 10 + 10 * random.nextInt(4) : 1 + random.nextInt(99);
            call(Calls.VOTER, random.nextInt(6), weight, random.nextInt(25));
        }
        int broken = random.nextInt(10);
        for (int i = 0; i < broken; i++) {
            if (random.nextBoolean()) {
                call(Calls.STONE, random.nextInt(25));
            } else {
                call(Calls.TREAD, random.nextInt(25), 1 + random.nextInt(99));
            }
        }
    }

    /** To the last DAY there is, or to one near it. */
    void toLastDay() {
        for (int i = 0; i < 16; i++) {
            call(Calls.DAY, 60);
        }
        call(Calls.DAY, 10 + random.nextInt(51));
    }

    void typeAndRead() {
        call(Calls.CLEAR);
        String text = text();
        for (int i = 0; i < text.length() && i < MOST_BYTES && left() > 0; i++) {
            one("type of [" + text + "]", Calls.TYPE, text.charAt(i));
        }
        call("[" + text + "] ", Calls.READ);
    }

    /** A text that tells a lake, but for a fault or two now and then. */
    private String text() {
        StringBuilder text = new StringBuilder("lake ").append(random.nextInt(100)).append(';');
        int items = random.nextInt(9);
        for (int i = 0; i < items; i++) {
            item(text);
        }
        if (text.length() > MOST_BYTES) {
            text.setLength(MOST_BYTES - random.nextInt(40));
        }
        int changes = random.nextInt(3);
        for (int i = 0; i < changes && text.length() > 0; i++) {
            change(text);
        }
        return text.toString();
    }

    private void item(StringBuilder text) {
        String word = WORDS[random.nextInt(random.nextInt(5) == 0 ? WORDS.length : 4)];
        if (word.equals("lake") && random.nextInt(4) > 0) {
            word = "voter";
        }
        text.append(random.nextBoolean() ? " " : "").append(word);
        int pairs = 2 + 2 * random.nextInt(3);
        int cells = 1 + random.nextInt(5);
        int numbers = word.equals("voter") ? 3 : word.equals("week") ? pairs : cells;
        for (int n = 0; n < numbers; n++) {
            text.append(' ').append(random.nextInt(n == 0 || word.equals("week") ? 6 : 25));
        }
        text.append(random.nextInt(8) == 0 ? " ;" : ";");
    }

    private void change(StringBuilder text) {
        int place = random.nextInt(text.length());
        String with = "; 0123456789lakecellweekvoterA-\t";
        char c = with.charAt(random.nextInt(with.length()));
        if (random.nextBoolean()) {
            text.setCharAt(place, c);
        } else {
            text.deleteCharAt(place);
        }
    }
}
