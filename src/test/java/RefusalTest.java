/** Every call by every number that is not as told, and by the least and the most ones that are. */
public final class RefusalTest {
    private static final int VOTERS = 5;

    public static void main(String[] args) {
        for (Calls call : Calls.values()) {
            for (int i = 0; i < call.numbers(); i++) {
                around(call, i);
            }
        }
        unlike(Calls.CROSS, 1, 2);
        unlike(Calls.APART, 1, 2);
        unlike(Calls.STONES, 1, 2);
        unlike(Calls.TWO, 0, 1);
        noVoters();
        Due.end();
    }

    /** A lake of which nothing is as at first. */
    private static IceVote lake() {
        StringBuilder text = new StringBuilder("lake 20;cell 1 3;cell 4 9;week 4 1 0 5;");
        for (int v = 0; v < VOTERS; v++) {
            text.append("voter ").append(v).append(" 4").append(v).append(' ').append(3 * v).append(';');
        }
        IceVote x = Due.told(text.toString());
        x.ward(1, 30);
        x.note(1, 2, 3, 4, 5);
        x.voted(1, 0, 3, 4, 5);
        x.day(2);
        x.thaw(3, 40, 2, 3);
        x.image(0);
        x.image(1);
        return x;
    }

    /** Numbers that are all as told. */
    private static int[] good(Calls call) {
        int[] numbers = new int[call.numbers()];
        for (int i = 0; i < numbers.length; i++) {
            numbers[i] = call.least(i);
        }
        // Two that must be unlike stand behind one another, and i of a path may be any.
        if (call == Calls.CROSS || call == Calls.APART || call == Calls.STONES) {
            numbers[2] = 12;
        }
        if (call == Calls.TWO) {
            numbers[1] = 2;
        }
        return numbers;
    }

    private static void around(Calls call, int i) {
        int least = call.least(i);
        int most = call.most(i, VOTERS);
        int[] bad = {least - 1, most + 1, Integer.MIN_VALUE, Integer.MAX_VALUE, least - 256, least - 65536};
        for (int number : bad) {
            int[] numbers = good(call);
            numbers[i] = number;
            if (number < least || number > most) {
                refused(call, numbers);
            }
        }
        int[] numbers = good(call);
        taken(call, numbers);
        numbers[i] = most;
        taken(call, numbers);
    }

    private static void unlike(Calls call, int i, int j) {
        int[] numbers = good(call);
        numbers[i] = numbers[j];
        refused(call, numbers);
    }

    private static void refused(Calls call, int... numbers) {
        IceVote x = lake();
        refusedOf(x, call, numbers);
        Due.due("as kept behind " + call.told(numbers), x.from(0) * 100 + x.undo(), 100);
    }

    private static void refusedOf(IceVote x, Calls call, int... numbers) {
        long before = x.digest();
        int status = x.status(0);
        Due.due(call.told(numbers), call.on(x, numbers), call.bad());
        Due.due("digest behind " + call.told(numbers), x.digest(), before);
        Due.due("BAD behind " + call.told(numbers), x.status(0), status + 1);
        Due.due("NO and FULL behind " + call.told(numbers), x.status(1) + x.status(2), 0);
    }

    private static void taken(Calls call, int... numbers) {
        IceVote x = lake();
        call.on(x, numbers);
        Due.due("BAD behind " + call.told(numbers), x.status(0), 0);
        Due.due("NO and FULL behind " + call.told(numbers), x.status(1) + x.status(2), 0);
    }

    private static void noVoters() {
        refusedOf(new IceVote(), Calls.ABOUT, 0, 0);
        refusedOf(new IceVote(), Calls.VOTED, 0, 0, 0, 0, 0);
        refusedOf(new IceVote(), Calls.WHO, 0);
        refusedOf(new IceVote(), Calls.TWO, 0, 1);
        refusedOf(new IceVote(), Calls.SEEN, 1, 0);
    }
}
