/** Promises 26 and 29 to 34 where they begin and end: nothing told yet, all told, no kind left. */
final class GuessEdges {
    private static final int KINDS = 63;

    private GuessEdges() {
    }

    static void all() {
        seenSets();
        seenJustThose();
        seenNoSet();
        seenOfNobody();
        notesAsTheyCome();
        notesOfAnyNumbers();
        votedAsTheyCome();
        votedOfAnyNumbers();
        forgotten();
        isOfNone();
        isOfAll();
        isWhereItTurns();
        nextLeast();
        nextFewest();
        nextByIce();
        nextNone();
        whoOfNone();
        whoOfAll();
        whoWhereItTurns();
    }

    /** Voters of these weights on cells that bear 40. */
    private static IceVote weighing(int... weights) {
        IceVote x = Lakes.of(20);
        for (int v = 0; v < weights.length; v++) {
            x.voter(2, weights[v], v);
        }
        return x;
    }

    private static void seen(IceVote x, int wet, int sets, int all, int some) {
        int[] want = {sets, all, some};
        for (int what = 0; what <= 2; what++) {
            Edge.due("seen(" + wet + ", " + what + ") of " + x.count(0), x.seen(wet, what), want[what]);
        }
    }

    private static void seenSets() {
        Edge.of(26, "SEEN: sets of VOTERS who may have voted YES");
        // Of seven who are none of them heavy 4 or more: 35, 21, 7 and 1 sets.
        seen(weighing(1, 1, 1, 1, 1, 1, 1), 0, 64, 0, 127);
        seen(weighing(41, 41, 41, 41, 41, 41, 41), 127, 1, 127, 127);
        seen(weighing(41, 41, 41, 41, 41, 41, 41), 15, 1, 15, 15);
        seen(weighing(41, 41, 41, 41, 41, 41, 41), 7, 0, IceVote.NONE, 0);
        seen(weighing(1), 0, 1, 1, 1);
        seen(weighing(41), 1, 1, 1, 1);
        // Of two the first one alone, or both.
        seen(weighing(9, 9), 0, 2, 1, 3);
        seen(weighing(8, 9), 0, 2, 2, 3);
    }

    private static void seenJustThose() {
        Edge.of(26, "by such a set it is CARRIED, and just those told are the ones of it whose CELL BEARS less than their WEIGHT");
        IceVote x = weighing(40, 41, 40);
        seen(x, 0, 1, 5, 5);
        seen(x, 2, 3, 2, 7);
        seen(x, 1, 0, IceVote.NONE, 0);
        seen(x, 3, 0, IceVote.NONE, 0);
        seen(x, 7, 0, IceVote.NONE, 0);
        x = weighing(41, 99, 1, 1);
        seen(x, 1, 1, 13, 13);
        seen(x, 2, 3, 2, 14);
        seen(x, 3, 4, 3, 15);
        seen(x, 0, 0, IceVote.NONE, 0);
    }

    private static void seenNoSet() {
        Edge.of(26, "in all (1; bits; NONE: no set), in some (2; bits)");
        seen(weighing(41), 0, 0, IceVote.NONE, 0);
        seen(weighing(40), 1, 0, IceVote.NONE, 0);
        seen(weighing(40, 41), 1, 0, IceVote.NONE, 0);
        // A set that is told in part alone is one, though no one is in all of them.
        seen(weighing(1, 1, 1), 0, 4, 0, 7);
    }

    private static void seenOfNobody() {
        Edge.of(26, "nobody: no. WET");
        seen(new IceVote(), 0, 0, IceVote.NONE, 0);
        seen(Lakes.of(99), 0, 0, IceVote.NONE, 0);
    }

    private static void notesAsTheyCome() {
        Edge.of(29, "NOTES 0 .. 5, as they come");
        IceVote x = new IceVote();
        Edge.due("count(3)", x.count(3), 0);
        for (int i = 1; i <= 6; i++) {
            Edge.due("note " + i, x.note(i, i, i, i, i), i);
            Edge.due("count(3)", x.count(3), i);
        }
        Edge.due("a 7th", x.note(0, 0, 0, 0, 0), IceVote.FULL);
        Edge.due("count(3)", x.count(3), 6);
        x.forget(0);
        Edge.due("the first again", x.note(0, 0, 0, 0, 0), 1);
    }

    private static void notesOfAnyNumbers() {
        Edge.of(29, "ICE i (0 .. 99) of a CELL was j (0 .. 99) behind a DAY of FROST f, SUN s");
        IceVote x = new IceVote();
        Edge.due("note(0, 0, 0, 0, 0)", x.note(0, 0, 0, 0, 0), 1);
        Edge.due("note(24, 99, 9, 9, 99)", x.note(24, 99, 9, 9, 99), 2);
        Edge.due("note(0, 0, 9, 0, 99)", x.note(0, 0, 9, 0, 99), 3);
        Edge.due("note(24, 99, 0, 9, 0)", x.note(24, 99, 0, 9, 0), 4);
        Edge.due("status(0)", x.status(0), 0);
    }

    private static void votedAsTheyCome() {
        Edge.of(30, "VOTED 0 .. 5, as they come");
        IceVote x = weighing(9, 9, 9, 9, 9, 9, 9);
        Edge.due("count(4)", x.count(4), 0);
        for (int i = 1; i <= 6; i++) {
            Edge.due("voted " + i, x.voted(i, 1, i, i, i), i);
            Edge.due("count(4)", x.count(4), i);
        }
        Edge.due("a 7th", x.voted(0, 0, 0, 0, 0), IceVote.FULL);
        Edge.due("count(4)", x.count(4), 6);
        x.forget(1);
        Edge.due("the first again", x.voted(0, 0, 0, 0, 0), 1);
    }

    private static void votedOfAnyNumbers() {
        Edge.of(30, "a VOTER voted YES (1) or not (0), b (0 .. 198), n (0 .. 198), f (0 .. 9) being so");
        IceVote x = weighing(9, 9, 9, 9, 9, 9, 9);
        Edge.due("voted(0, 0, 0, 0, 0)", x.voted(0, 0, 0, 0, 0), 1);
        Edge.due("voted(6, 1, 198, 198, 9)", x.voted(6, 1, 198, 198, 9), 2);
        Edge.due("voted(0, 1, 0, 198, 0)", x.voted(0, 1, 0, 198, 0), 3);
        Edge.due("voted(6, 0, 198, 0, 9)", x.voted(6, 0, 198, 0, 9), 4);
        Edge.due("status(0)", x.status(0), 0);
    }

    private static void forgotten() {
        Edge.of(31, "No NOTES (0), VOTED (1): how many there were");
        IceVote x = new IceVote();
        Edge.due("forget(0) of none", x.forget(0), 0);
        Edge.due("forget(1) of none", x.forget(1), 0);
        x = Lakes.full();
        Edge.due("forget(0) of all", x.forget(0), 6);
        Edge.due("count(3)", x.count(3), 0);
        Edge.due("count(4)", x.count(4), 6);
        Edge.due("forget(0) again", x.forget(0), 0);
        x = Lakes.full();
        Edge.due("forget(1) of all", x.forget(1), 6);
        Edge.due("count(4)", x.count(4), 0);
        Edge.due("count(3)", x.count(3), 6);
        Edge.due("forget(1) again", x.forget(1), 0);
    }

    private static void isOfNone() {
        Edge.of(32, "IS: KINDS (bits) by which all NOTES of it are so");
        IceVote x = new IceVote();
        Edge.due("is(0) by no NOTES", x.is(0), KINDS);
        Edge.due("is(24) by no NOTES", x.is(24), KINDS);
        x.note(0, 0, 0, 0, 99);
        Edge.due("is(0) by one of no KIND", x.is(0), 0);
        Edge.due("is(24) by one of another", x.is(24), KINDS);
        x.forget(0);
        Edge.due("is(0) behind forget(0)", x.is(0), KINDS);
    }

    private static void isOfAll() {
        Edge.of(32, "by which all NOTES of it are so");
        IceVote x = new IceVote();
        x.note(24, 20, 2, 0, 20);
        Edge.due("is(24): a stream, a mouth, snow or a drift", x.is(24), Due.bits(1, 2, 4, 5));
        x.note(23, 20, 2, 0, 22);
        x.note(24, 20, 1, 0, 19);
        Edge.due("is(24): a stream or a mouth", x.is(24), Due.bits(1, 4));
        x.note(22, 20, 2, 0, 23);
        x.note(24, 50, 0, 9, 40);
        x.note(24, 9, 9, 0, 8);
        Edge.due("is(24): a mouth", x.is(24), Due.bits(4));
        Edge.due("is(23): a plain one", x.is(23), Due.bits(0));
        Edge.due("is(22): a bay", x.is(22), Due.bits(3));
    }

    private static void isOf(int i, int f, int s, int j, int want) {
        IceVote x = new IceVote();
        x.note(7, i, f, s, j);
        Edge.due("is(7) by note(7, " + i + ", " + f + ", " + s + ", " + j + ")", x.is(7), want);
    }

    private static void isWhereItTurns() {
        Edge.of(32, "was j (0 .. 99) behind a DAY");
        isOf(0, 0, 0, 0, KINDS);
        isOf(0, 0, 9, 0, KINDS);
        isOf(99, 0, 0, 99, Due.bits(0, 2, 3, 5));
        isOf(99, 9, 0, 99, Due.bits(0, 2, 3, 5));
        isOf(99, 9, 0, 98, Due.bits(1, 4));
        isOf(99, 9, 9, 90, Due.bits(0, 3));
        isOf(9, 2, 0, 9, Due.bits(1, 2, 5));
        isOf(9, 2, 0, 8, Due.bits(4));
        isOf(10, 2, 0, 10, Due.bits(1, 2, 4, 5));
        isOf(10, 0, 0, 10, Due.bits(0, 2, 3, 5));
        isOf(10, 1, 0, 11, Due.bits(0));
        isOf(10, 1, 0, 12, Due.bits(3));
        isOf(10, 9, 9, 99, 0);
    }

    private static void nextLeast() {
        Edge.of(33, "behind that DAY are fewest; of like ones the least");
        IceVote x = Lakes.of(20);
        // Of snow and a drift, and of a stream and a mouth, none is told from the other by any DAY.
        x.note(0, 20, 2, 0, 20);
        x.note(0, 20, 0, 1, 20);
        x.note(24, 20, 2, 0, 20);
        x.note(24, 20, 0, 0, 19);
        Edge.due("is(0)", x.is(0), Due.bits(2, 5));
        Edge.due("next(0)", x.next(0), 0);
        Edge.due("is(24)", x.is(24), Due.bits(1, 4));
        Edge.due("next(24)", x.next(24), 0);
        // One KIND is alike to none other by any DAY.
        x.note(24, 9, 9, 0, 8);
        Edge.due("is(24) of one", x.is(24), Due.bits(4));
        Edge.due("next(24) of one", x.next(24), 0);
    }

    private static void nextFewest() {
        Edge.of(33, "NEXT: 10 f and s (0 .. 9 each) by which, its ICE as it is, the most of these KINDS by which it is alike");
        // Of all KINDS two are alike by FROST 3 without SUN at the least, ICE being 0.
        Edge.due("next(0) of all on 0", new IceVote().next(0), 30);
        Edge.due("next(24) of all on 0", new IceVote().next(24), 30);
        Edge.due("next(0) of all on 20", Lakes.of(20).next(0), 1);
        Edge.due("next(0) of all on 99", Lakes.of(99).next(0), 1);
        int[] ices = {20, 97, 98, 99, 0};
        int[] want = {10, 10, 0, 0, 10};
        for (int i = 0; i < ices.length; i++) {
            IceVote x = Lakes.of(ices[i]);
            x.note(3, 20, 0, 5, 15);
            Edge.due("is(3)", x.is(3), Due.bits(0, 3));
            Edge.due("next(3) of a plain one or a bay on " + ices[i], x.next(3), want[i]);
        }
    }

    private static void nextByIce() {
        Edge.of(33, "its ICE as it is");
        int[] ices = {0, 1, 5, 9, 10, 11, 99};
        // A stream of 0 melts what it grew by less than 4 of frost; a mouth of 10 grows as it does.
        int[] want = {40, 20, 20, 20, 0, 0, 0};
        for (int i = 0; i < ices.length; i++) {
            IceVote x = Lakes.of(ices[i]);
            x.note(3, 20, 7, 0, 22);
            Edge.due("is(3)", x.is(3), Due.bits(1, 4));
            Edge.due("next(3) of a stream or a mouth on " + ices[i], x.next(3), want[i]);
        }
        IceVote x = Lakes.of(9);
        x.cell(3, 5);
        x.note(3, 20, 7, 0, 22);
        Edge.due("next(3), of what KIND it is counting for none", x.next(3), 20);
    }

    private static void nextNone() {
        Edge.of(33, "none: no KIND. VOTED");
        IceVote x = new IceVote();
        x.note(0, 0, 0, 0, 1);
        Edge.due("next(0)", x.next(0), IceVote.NONE);
        Edge.due("next(1)", x.next(1), 30);
        Edge.of(33, "NEXT. NONE");
        x.forget(0);
        x.note(24, 20, 7, 0, 27);
        x.note(24, 20, 7, 0, 28);
        Edge.due("next(24)", x.next(24), IceVote.NONE);
        Edge.due("status(1)", x.status(1), 0);
    }

    private static void whoOfNone() {
        Edge.of(34, "WHO IS: KINDS of VOTERS (bits)");
        IceVote x = weighing(9, 9, 9, 9, 9, 9, 9);
        Edge.due("who(0) by none", x.who(0), KINDS);
        Edge.due("who(6) by none", x.who(6), KINDS);
        x.voted(0, 1, 8, 8, 0);
        Edge.due("who(0) by one of no KIND", x.who(0), 0);
        Edge.due("who(6) by one of another", x.who(6), KINDS);
        x.forget(1);
        Edge.due("who(0) behind forget(1)", x.who(0), KINDS);
    }

    private static void whoOfAll() {
        Edge.of(34, "by which all VOTED of one are so");
        IceVote x = weighing(50, 40, 30, 9, 9, 9, 30);
        x.voted(6, 1, 50, 30, 0);
        x.voted(2, 0, 50, 50, 9);
        x.voted(6, 0, 39, 39, 0);
        Edge.due("who(6): a brewer or an ear", x.who(6), Due.bits(1, 5));
        x.voted(0, 1, 0, 0, 6);
        x.voted(0, 0, 0, 0, 5);
        x.voted(6, 0, 50, 29, 0);
        Edge.due("who(6): an ear", x.who(6), Due.bits(5));
        Edge.due("who(2): a ferryman", x.who(2), Due.bits(2));
        Edge.due("who(0): a father", x.who(0), Due.bits(3));
    }

    /** The KINDS by which one of this WEIGHT votes yes; by all others one does not. */
    private static void whoVotes(int weight, int b, int n, int f, int kinds) {
        String told = "b " + b + ", n " + n + ", f " + f + " of WEIGHT " + weight;
        IceVote x = weighing(weight, 100 - weight);
        x.voted(0, 1, b, n, f);
        Edge.due("who(0) by yes, " + told, x.who(0), kinds);
        x.forget(1);
        x.voted(0, 0, b, n, f);
        Edge.due("who(0) by no, " + told, x.who(0), KINDS - kinds);
    }

    private static void whoWhereItTurns() {
        Edge.of(34, "say whether one votes YES, by WEIGHT w, by what one's CELL BEARS b, by the least that CELLS BESIDE it BEAR n");
        whoVotes(99, 99, 99, 0, Due.bits(0, 1, 3, 4, 5));
        whoVotes(99, 98, 99, 0, 0);
        whoVotes(99, 99, 98, 0, Due.bits(0, 1, 3, 4));
        whoVotes(99, 98, 99, 1, Due.bits(4));
        whoVotes(99, 98, 99, 5, Due.bits(4));
        whoVotes(99, 98, 99, 6, Due.bits(3, 4));
        whoVotes(99, 0, 0, 9, Due.bits(3, 4));
        whoVotes(1, 0, 0, 0, 0);
        whoVotes(1, 1, 1, 0, Due.bits(0, 3, 4));
        whoVotes(1, 39, 198, 0, Due.bits(0, 3, 4));
        whoVotes(1, 40, 1, 0, Due.bits(0, 1, 3, 4, 5));
        whoVotes(1, 40, 0, 0, Due.bits(0, 1, 3, 4));
        whoVotes(1, 198, 198, 9, Due.bits(0, 1, 3, 4, 5));
    }
}
