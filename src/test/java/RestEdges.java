/** Promises 38 to 43 where they begin and end: none kept, none refused, all none and all full. */
final class RestEdges {
    private RestEdges() {
    }

    static void all() {
        fractionAtFirst();
        fractionEnds();
        imageKeeps();
        imagesApart();
        imageOfNew();
        fromKeepsTheImage();
        fromNone();
        statusAtFirst();
        statusOfEach();
        statusOfOthers();
        countOfNone();
        countOfAll();
        digestOfNone();
        digestOfAll();
    }

    private static void fractionAtFirst() {
        Edge.of(38, "THE FRACTION: above (0), below (1)");
        IceVote x = new IceVote();
        Edge.due("part(0)", x.part(0), 0);
        Edge.due("part(1)", x.part(1), 1);
        x.thaw(0, 0, 0, 0);
        x.thaw(25, 1, 0, 0);
        Edge.due("part(0) behind refused ones", x.part(0), 0);
        Edge.due("part(1) behind refused ones", x.part(1), 1);
    }

    private static void fractionEnds() {
        Edge.of(38, "lowest terms, below above 0");
        for (int odds = 0; odds <= 10; odds++) {
            for (int m = 0; m <= 8; m++) {
                IceVote x = Due.told("lake 0;week 1 0 1 0 1 0 1 0 1 0 1 0 1 0;");
                x.thaw(0, 2, m, odds);
                long above = x.part(0);
                long below = x.part(1);
                Edge.due("part(1) is above 0 by " + odds + " of 10, " + m + " DAYS", below > 0 ? 1 : 0, 1);
                Edge.due("what divides both", java.math.BigInteger.valueOf(above).gcd(java.math.BigInteger.valueOf(below)).longValue(), 1);
                // At least one night of m has frost.
                double chance = 1 - Math.pow(odds / 10.0, m);
                Edge.due("the chance is as told", Math.abs((double) above / below - chance) < 1e-9 ? 1 : 0, 1);
            }
        }
    }

    private static void imageKeeps() {
        Edge.of(39, "IMAGES 0, 1 keep all but them, THE TEXT, THE FRACTION and STATUS; what may be undone they keep");
        for (int i = 0; i <= 1; i++) {
            IceVote x = Lakes.full();
            Edge.due("image(" + i + ")", x.image(i), 1);
            long kept = x.digest();
            x.lake(1);
            x.voter(1, 1, 1);
            x.ward(1, 1);
            x.note(1, 1, 1, 1, 1);
            x.voted(0, 1, 1, 1, 1);
            x.day(1);
            Edge.due("from(" + i + ")", x.from(i), 1);
            Edge.due("digest()", x.digest(), kept);
            IceVote twin = Lakes.full();
            twin.image(i);
            Edge.alike("behind from(" + i + ")", x, twin);
        }
    }

    private static void imagesApart() {
        Edge.of(39, "An IMAGE is kept: 1");
        IceVote x = Lakes.of(1);
        Edge.due("image(0)", x.image(0), 1);
        x.lake(2);
        Edge.due("image(1)", x.image(1), 1);
        x.lake(3);
        x.from(0);
        Edge.due("count(2) of 0", x.count(2), 25);
        x.from(1);
        Edge.due("count(2) of 1", x.count(2), 50);
        Edge.due("image(0) again", x.image(0), 1);
        x.lake(4);
        x.from(0);
        Edge.due("count(2) of 0, kept again", x.count(2), 50);
        x.from(1);
        Edge.due("count(2) of 1", x.count(2), 50);
    }

    private static void imageOfNew() {
        Edge.of(40, "it goes on from one");
        IceVote x = new IceVote();
        x.image(1);
        x.lake(99);
        x.voter(0, 1, 0);
        x.day(1);
        Edge.due("from(1)", x.from(1), 1);
        IceVote twin = new IceVote();
        twin.image(1);
        Edge.alike("behind from(1)", x, twin);
    }

    private static void fromKeepsTheImage() {
        Edge.of(40, "It goes on from an IMAGE: 1");
        IceVote x = Lakes.some();
        IceVote twin = Lakes.some();
        for (int i = 0; i < 3; i++) {
            Edge.due("from(1)", x.from(1), 1);
            x.voter(0, 1, 0);
            x.cell(0, 5);
            x.weather(6, 9, 9);
            x.ward(0, 99);
            x.note(1, 1, 1, 1, 1);
            x.voted(0, 1, 1, 1, 1);
            x.tread(0, 99);
            x.day(9);
        }
        x.from(1);
        twin.from(1);
        Edge.alike("behind the last from(1)", x, twin);
        x = Lakes.some();
        x.from(0);
        x.type(' ');
        x.thaw(0, 198, 0, 0);
        x.undo();
        x.voter(9, 9, 9);
        x.from(1);
        Edge.due("part(0), not the image's", x.part(0), 0);
        Edge.due("count(6), not the image's", x.count(6), Lakes.some().count(6) + 1);
        Edge.due("status(0), not the image's", x.status(0), 1);
        Edge.due("status(1), not the image's", x.status(1), 1);
    }

    private static void fromNone() {
        Edge.of(40, "NO: none was kept");
        IceVote x = new IceVote();
        Edge.due("from(0)", x.from(0), IceVote.NO);
        Edge.due("from(1)", x.from(1), IceVote.NO);
        x.image(0);
        Edge.due("from(1) behind image(0)", x.from(1), IceVote.NO);
        Edge.due("from(0) behind image(0)", x.from(0), 1);
        Edge.due("status(1)", x.status(1), 3);
        x.lake(0);
        Edge.due("from(0) behind lake(0)", x.from(0), 1);
    }

    private static void statusAtFirst() {
        Edge.of(41, "STATUS: BAD (0), NO (1), FULL (2)");
        IceVote x = new IceVote();
        for (int what = 0; what <= 2; what++) {
            Edge.due("status(" + what + ")", x.status(what), 0);
        }
        int[] times = {3, 2, 4};
        for (int i = 0; i < 3; i++) {
            x.lake(100);
        }
        for (int i = 0; i < 2; i++) {
            x.undo();
        }
        for (int i = 0; i < 6 + 4; i++) {
            x.note(0, 0, 0, 0, 0);
        }
        for (int what = 0; what <= 2; what++) {
            Edge.due("status(" + what + ") behind some", x.status(what), times[what]);
        }
        Edge.due("status(3)", x.status(3), -1);
        Edge.due("status(-1)", x.status(-1), -1);
        Edge.due("status(0) behind them", x.status(0), 5);
    }

    private static void statusOfEach() {
        Edge.of(41, "how many calls were refused as BAD, NO, FULL (each answer told so below is such a one)");
        IceVote x = Lakes.of(9);
        Edge.due("path(0, 0, 0, 0)", x.path(0, 0, 0, 0), -10);
        Edge.due("status(0) behind -10", x.status(0), 1);
        x.voter(0, 1, 0);
        Edge.due("about(1, 0)", x.about(1, 0), IceVote.BAD);
        Edge.due("two(0, 0)", x.two(0, 0), IceVote.BAD);
        Edge.due("status(0) behind them", x.status(0), 3);
        Edge.due("from(1)", x.from(1), IceVote.NO);
        Edge.due("status(1)", x.status(1), 1);
        for (int v = 0; v < 8; v++) {
            x.voter(0, 1, 0);
            x.voted(0, 1, 1, 1, 1);
        }
        Edge.due("status(2) behind 2 of 9 voters, 2 of 8 voted", x.status(2), 4);
    }

    private static void statusOfOthers() {
        Edge.of(41, "(where others are told they count as these)");
        IceVote x = Lakes.of(9);
        Edge.due("path(1, 0, 0, 1)", x.path(1, 0, 0, 1), -5);
        Edge.due("path(99, 0, 0, 0)", x.path(99, 0, 0, 0), IceVote.NONE);
        Edge.due("read()", x.read(), -10);
        Edge.due("when(0, 198)", x.when(0, 198), IceVote.NONE);
        Edge.due("horses(198)", x.horses(198), IceVote.NONE);
        Edge.due("apart(1, 0, 1, 0)", x.apart(1, 0, 1, 0), IceVote.NONE);
        Edge.due("turn()", x.turn(), IceVote.NONE);
        Edge.due("seen(0, 1)", x.seen(0, 1), IceVote.NONE);
        Edge.due("stones(1, 0, 1)", x.stones(1, 0, 1), IceVote.NONE);
        for (int what = 0; what <= 2; what++) {
            Edge.due("status(" + what + ")", x.status(what), 0);
        }
    }

    private static void counts(String about, IceVote x, int... want) {
        for (int what = 0; what <= 6; what++) {
            Edge.due("count(" + what + ") of " + about, x.count(what), want[what]);
        }
    }

    private static void countOfNone() {
        Edge.of(42, "How many: 0 VOTERS, 1 the DAY, 2 ICE of all");
        counts("a new one", new IceVote(), 0, 0, 0, 0, 0, 0, 0);
        counts("the most ICE", Lakes.of(99), 0, 0, 2475, 0, 0, 0, 0);
        counts("the last DAY", Lakes.onDay(999, 99), 0, 999, 2475, 0, 0, 8, 0);
    }

    private static void countOfAll() {
        Edge.of(42, "3 NOTES, 4 VOTED, 5 that may be undone, 6 bytes of THE TEXT");
        IceVote x = Lakes.full();
        counts("a full one", x, 7, 4, x.count(2), 6, 6, 8, 150);
        x.undo();
        Edge.due("count(5) behind undo()", x.count(5), 7);
        Edge.due("count(1) behind undo()", x.count(1), 3);
    }

    private static void digestOfNone() {
        Edge.of(43, "h = 1453; then h = 31 h + v for each v");
        long none = Due.folded(1453, new long[7 + 2 * 25 + 2 * 7 + 4]);
        Edge.due("digest() of a new one", new IceVote().digest(), Due.folded(none, 0, 1));
    }

    private static void digestOfAll() {
        Edge.of(43, "of NOTES c, i, f, s, j; of VOTED v, yes, b, n, f; THE FRACTION");
        // Stones on 0, 1, 2, 3, a day behind each: of 3 and 1, of 9 and 9, and two of none.
        int[] ices = {12, 0, 11, 11};
        long h = Due.folded(1453, 7, 4, 21 * 22 + 34, 6, 6, 8, 150);
        for (int c = 0; c < 25; c++) {
            h = Due.folded(h, c == 1 ? 4 : 0, c < 4 ? ices[c] : 22);
        }
        h = Due.folded(h, 3, 1, 9, 9, 0, 0, 0, 0, 0, 0, 0, 0, 0, 0);
        h = Due.folded(h, 96, 97, 98, 99);
        for (int v = 0; v < 7; v++) {
            h = Due.folded(h, v % 6, 40 + v, v);
        }
        for (int i = 0; i < 6; i++) {
            h = Due.folded(h, i, 20, i, 0, 20 + i);
        }
        for (int i = 0; i < 6; i++) {
            h = Due.folded(h, i, i % 2, 40, 40, i);
        }
        Edge.due("digest() of a full one", Lakes.full().digest(), Due.folded(h, 7, 10));
    }
}
