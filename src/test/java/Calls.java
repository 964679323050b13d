import java.lang.reflect.Method;

/** The calls of the document's face, each number of theirs with the least and the most it may be. */
enum Calls {
    LAKE("lake", 0, 99), CELL("cell", 0, 24, 0, 5), WEATHER("weather", 0, 6, 0, 9, 0, 9), WARD("ward", 0, 3, 0, 99),
    VOTER("voter", 0, 5, 1, 99, 0, 24), TYPE("type", 0, 127), CLEAR("clear"), READ("read"), DAY("day", 1, 60),
    TREAD("tread", 0, 24, 1, 99), STONE("stone", 0, 24), UNDO("undo"), OF("of", 0, 24, 0, 2),
    ABOUT("about", 0, Calls.LAST_VOTER, 0, 3), THEN("then", 0, 24, 0, 60, 0, 1), WHEN("when", 0, 24, 1, 198),
    WHERE("where", 1, 198, 0, 60), HORSES("horses", 1, 198), PATH("path", 1, 198, 0, 24, 0, 24, -1, Calls.ANY),
    SAFE("safe", 0, 24, 0, 24), CROSS("cross", 1, 99, 0, 24, 0, 24), APART("apart", 1, 198, 0, 24, 0, 24, 0, 1),
    VOTES("votes", 0, 2), TURN("turn"), SEEN("seen", 0, Calls.LAST_SET, 0, 2), LIES("lies"),
    STONES("stones", 1, 198, 0, 24, 0, 24), NOTE("note", 0, 24, 0, 99, 0, 9, 0, 9, 0, 99),
    VOTED("voted", 0, Calls.LAST_VOTER, 0, 1, 0, 198, 0, 198, 0, 9), FORGET("forget", 0, 1), IS("is", 0, 24),
    NEXT("next", 0, 24), WHO("who", 0, Calls.LAST_VOTER), TWO("two", 0, Calls.LAST_VOTER, 0, Calls.LAST_VOTER),
    THAW("thaw", 0, 24, 1, 198, 0, 8, 0, 10), WINTERS("winters", 0, 999999, 0, 60), PART("part", 0, 1),
    IMAGE("image", 0, 1), FROM("from", 0, 1), STATUS("status", 0, 2), COUNT("count", 0, 6), DIGEST("digest");

    /** These stand for a most that hangs on the voters there are, and for one that is none. */
    static final int LAST_VOTER = -100, LAST_SET = -101, ANY = Integer.MAX_VALUE;

    final String call;
    private final int[] ranges;
    private final Class<?>[] types;

    Calls(String call, int... ranges) {
        this.call = call;
        this.ranges = ranges;
        types = new Class<?>[ranges.length / 2];
        java.util.Arrays.fill(types, int.class);
    }

    /** The calls stand as their promises do; the first one is of the constructor. */
    int promise() {
        return ordinal() + 2;
    }

    int numbers() {
        return types.length;
    }

    int least(int i) {
        return ranges[2 * i];
    }

    int most(int i, int voters) {
        int most = ranges[2 * i + 1];
        return most == LAST_VOTER ? voters - 1 : most == LAST_SET ? (1 << voters) - 1 : most;
    }

    /** Where the first of two numbers that must be unlike stands, the other one behind it; -1: nowhere. */
    int pair() {
        return this == CROSS || this == APART || this == STONES ? 1 : this == TWO ? 0 : -1;
    }

    /** What refuses a number that is not as told. */
    int bad() {
        return this == PATH ? -10 : this == STATUS ? -1 : -2;
    }

    long on(Object it, int... numbers) {
        try {
            Method method = it.getClass().getDeclaredMethod(call, types);
            method.setAccessible(true);
            Object[] boxed = new Object[numbers.length];
            for (int i = 0; i < numbers.length; i++) {
                boxed[i] = numbers[i];
            }
            return ((Number) method.invoke(it, boxed)).longValue();
        } catch (ReflectiveOperationException e) {
            throw new IllegalStateException(told(numbers), e);
        }
    }

    String told(int... numbers) {
        StringBuilder told = new StringBuilder(call).append('(');
        for (int i = 0; i < numbers.length; i++) {
            told.append(i == 0 ? "" : ", ").append(numbers[i]);
        }
        return told.append(')').toString();
    }
}
