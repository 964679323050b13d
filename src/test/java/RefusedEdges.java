/**
 * Every call by every number just beyond its least and its most, and far beyond them: it is refused,
 * counted as such, and nothing else is changed; by the least and the most ones it is not.
 */
final class RefusedEdges {
    /** How many voters there are on a new lake, on one of some, on a full one. */
    private static final int[] VOTERS = {0, 3, 7};
    private static final int SOME = 1;

    private RefusedEdges() {
    }

    static void all() {
        for (Calls call : Calls.values()) {
            if (call.numbers() > 0) {
                numbers(call);
            }
        }
        unlike(Calls.CROSS, "BAD: alike a, b, too");
        unlike(Calls.APART, "BAD: alike a, b, too");
        unlike(Calls.STONES, "BAD: alike, too");
        unlike(Calls.TWO, "BAD: alike, too");
        noVoters();
        badAheadOfNo();
        badAheadOfFull();
        no();
        full();
    }

    private static IceVote lake(int voters) {
        return voters == 0 ? new IceVote() : voters == VOTERS[SOME] ? Lakes.some() : Lakes.full();
    }

    private static void numbers(Calls call) {
        Edge.of(call.promise(), call == Calls.STATUS ? "-1: another what (counts as BAD)" : "BAD");
        for (int i = 0; i < call.numbers(); i++) {
            for (int voters : VOTERS) {
                beyond(call, i, voters);
            }
            taken(call, with(call, i, call.least(i)));
            taken(call, with(call, i, call.most(i, VOTERS[SOME])));
        }
    }

    private static void beyond(Calls call, int i, int voters) {
        int least = call.least(i);
        int most = call.most(i, voters);
        int[] told = {least - 1, most + 1, Integer.MIN_VALUE, Integer.MAX_VALUE, least - 256, least - 65536};
        for (int number : told) {
            if (number < least || number > most) {
                refused(voters, call, with(call, i, number));
            }
        }
    }

    /** The i-th number is this one, all others are as told; two that must be unlike are so. */
    private static int[] with(Calls call, int i, int number) {
        int[] numbers = new int[call.numbers()];
        for (int j = 0; j < numbers.length; j++) {
            numbers[j] = j == i ? number : call.least(j);
        }
        int pair = call.pair();
        if (pair >= 0 && numbers[pair] == numbers[pair + 1]) {
            numbers[i == pair ? pair + 1 : pair]++;
        }
        return numbers;
    }

    private static void unlike(Calls call, String words) {
        Edge.of(call.promise(), words);
        int first = call.pair();
        for (int number = call.least(first); number <= call.most(first, VOTERS[SOME]); number++) {
            int[] numbers = with(call, first, number);
            numbers[first + 1] = number;
            refused(VOTERS[SOME], call, numbers);
        }
    }

    /** On the lake of so many voters the call is refused as BAD. */
    private static void refused(int voters, Calls call, int... numbers) {
        IceVote x = lake(voters);
        String told = call.told(numbers) + " of " + voters + " voters";
        Edge.due(told, call.on(x, numbers), call.bad());
        counted(told, x, lake(voters), 0);
    }

    /** One more of this reason is counted, none of the others, and all else is as with the twin. */
    private static void counted(String told, IceVote x, IceVote twin, int reason) {
        for (int what = 0; what <= 2; what++) {
            Edge.due("status(" + what + ") behind " + told, x.status(what), twin.status(what) + (what == reason ? 1 : 0));
        }
        Edge.alike("behind " + told, x, twin);
    }

    private static void taken(Calls call, int... numbers) {
        IceVote x = Lakes.some();
        call.on(x, numbers);
        for (int what = 0; what <= 2; what++) {
            Edge.due("status(" + what + ") behind " + call.told(numbers), x.status(what), 0);
        }
    }

    private static void noVoters() {
        Edge.of(1, "no VOTERS");
        refused(0, Calls.ABOUT, 0, 0);
        refused(0, Calls.VOTED, 0, 0, 0, 0, 0);
        refused(0, Calls.WHO, 0);
        refused(0, Calls.TWO, 0, 1);
        Edge.of(26, "bits; of those there are");
        refused(0, Calls.SEEN, 1, 0);
        refused(3, Calls.SEEN, 8, 0);
        refused(7, Calls.SEEN, 128, 0);
    }

    private static void badAheadOfNo() {
        Edge.of(40, "BAD -2 a number is not as told; NO -3 as told");
        refused(0, Calls.FROM, 2);
        refused(0, Calls.FROM, -1);
    }

    private static void badAheadOfFull() {
        Edge.of(6, "Refused, changing nothing but STATUS, the first of: BAD -2 a number is not as told; NO -3 as told; FULL -4");
        refused(7, Calls.VOTER, 6, 1, 0);
        refused(7, Calls.VOTER, 0, 0, 0);
        refused(7, Calls.VOTER, 0, 1, 25);
        refused(7, Calls.TYPE, 128);
        refused(7, Calls.NOTE, 25, 0, 0, 0, 0);
        refused(7, Calls.VOTED, 7, 0, 0, 0, 0);
    }

    private static void no(IceVote x, IceVote twin, Calls call, int... numbers) {
        Edge.due(call.told(numbers), call.on(x, numbers), IceVote.NO);
        counted(call.told(numbers), x, twin, 1);
    }

    private static void no() {
        Edge.of(13, "NO: none may be");
        no(new IceVote(), new IceVote(), Calls.UNDO);
        no(told(Lakes.full()), told(Lakes.full()), Calls.UNDO);
        Edge.of(40, "NO: none was kept");
        no(new IceVote(), new IceVote(), Calls.FROM, 0);
        no(new IceVote(), new IceVote(), Calls.FROM, 1);
        no(kept(0), kept(0), Calls.FROM, 1);
        no(kept(1), kept(1), Calls.FROM, 0);
    }

    /** A word is told, so that none may be undone. */
    private static IceVote told(IceVote x) {
        x.ward(0, 1);
        return x;
    }

    private static IceVote kept(int i) {
        IceVote x = Lakes.of(9);
        x.image(i);
        x.stone(3);
        return x;
    }

    private static void full(int promise, String words, Calls call, int... numbers) {
        Edge.of(promise, words);
        IceVote x = Lakes.full();
        Edge.due(call.told(numbers), call.on(x, numbers), IceVote.FULL);
        counted(call.told(numbers), x, Lakes.full(), 2);
    }

    private static void full() {
        full(6, "FULL: 7", Calls.VOTER, 0, 1, 0);
        full(7, "FULL", Calls.TYPE, 32);
        full(29, "FULL: 6", Calls.NOTE, 0, 0, 0, 0, 0);
        full(30, "FULL: 6", Calls.VOTED, 0, 0, 0, 0, 0);
    }
}
