/**
 * What is asked of one cell goes by its own KIND and its own ICE: on this lake a cell of each kind has
 * an ICE of its own, all others have none. Worked out by hand.
 */
public final class OwnTest {
    /** A plain cell, a stream, snow, a bay, a mouth, a drift. */
    private static final int[] CELL = {1, 5, 9, 13, 17, 21};
    private static final int[] ICE = {40, 20, 41, 21, 42, 19};
    private static final int[] BEARS = {80, 40, 82, 42, 79, 19};

    public static void main(String[] args) {
        of();
        then();
        when();
        where();
        thaw();
        thawByDays();
        next();
        Due.end();
    }

    private static IceVote lake(String week) {
        IceVote x = Due.told("lake 42;cell 1 5;cell 2 9;cell 3 13;cell 4 17;cell 5 21;" + week);
        for (int k = 1; k < 6; k += 2) {
            Due.due("12: stone(" + CELL[k] + ")", x.stone(CELL[k]), 21);
        }
        int[] trodden = {1, 1, 5, 9, 21, 21};
        for (int c : trodden) {
            Due.due("11: tread(" + c + ", 1)", x.tread(c, 1), 1);
        }
        for (int c = 0; c < 25; c++) {
            if (c % 4 != 1 || c > 21) {
                Due.due("11: tread(" + c + ", 99)", x.tread(c, 99), 0);
            }
        }
        return x;
    }

    private static void of() {
        IceVote x = lake("");
        for (int k = 0; k < 6; k++) {
            Due.due("14: KIND of " + CELL[k], x.of(CELL[k], 0), k);
            Due.due("14: ICE of " + CELL[k], x.of(CELL[k], 1), ICE[k]);
            Due.due("14: what " + CELL[k] + " BEARS", x.of(CELL[k], 2), BEARS[k]);
        }
        Due.due("42: ICE of all", x.count(2), 183);
    }

    private static void then() {
        // A day of 6 and 3, behind it days without frost and sun, where streams melt by 1.
        IceVote x = lake("week 6 3;");
        int[] days = {0, 1, 2, 7};
        int[][] ices = {ICE, {43, 19, 44, 25, 41, 22}, {43, 18, 44, 25, 40, 22}, {43, 13, 44, 25, 35, 22}};
        int[][] bears = {BEARS, {86, 38, 88, 50, 77, 22}, {86, 36, 88, 50, 75, 22}, {86, 26, 88, 50, 65, 22}};
        for (int i = 0; i < days.length; i++) {
            for (int k = 0; k < 6; k++) {
                String told = "16: then(" + CELL[k] + ", " + days[i] + ", ";
                Due.due(told + "0)", x.then(CELL[k], days[i], 0), ices[i][k]);
                Due.due(told + "1)", x.then(CELL[k], days[i], 1), bears[i][k]);
            }
        }
        Due.due("16: then(0, 1, 0)", x.then(0, 1, 0), 3);
        Due.due("16: then(24, 1, 1)", x.then(24, 1, 1), 6);
    }

    private static void when() {
        // Each day 5, 1, 4, 6, 1, 4 more: 98, 97, 99, 98, 97, 99 at most.
        IceVote x = lake("week 6 1 6 1 6 1 6 1 6 1 6 1 6 1;");
        int[] weights = {98, 49, 98, 98, 98, 50};
        int[] days = {2, 5, 2, 5, 10, 8};
        int[] most = {196, 160, 198, 196, 189, 99};
        int[] last = {12, 60, 15, 13, 55, 20};
        for (int k = 0; k < 6; k++) {
            String told = "17: when(" + CELL[k] + ", ";
            Due.due(told + "what it BEARS)", x.when(CELL[k], BEARS[k]), 0);
            Due.due(told + "1 more)", x.when(CELL[k], BEARS[k] + 1), 1);
            Due.due(told + weights[k] + ")", x.when(CELL[k], weights[k]), days[k]);
            Due.due(told + most[k] + ")", x.when(CELL[k], most[k]), last[k]);
            if (most[k] < 198) {
                Due.due(told + (most[k] + 1) + ")", x.when(CELL[k], most[k] + 1), IceVote.NONE);
            }
        }
    }

    private static void where() {
        // Behind the day they bear 86, 38, 88, 50, 77, 22, and all others 6.
        IceVote x = lake("week 6 3;");
        Due.due("18: where(6, 1)", x.where(6, 1), Lakes.ALL);
        Due.due("18: where(22, 1)", x.where(22, 1), Due.bits(CELL));
        Due.due("18: where(23, 1)", x.where(23, 1), Due.bits(1, 5, 9, 13, 17));
        Due.due("18: where(39, 1)", x.where(39, 1), Due.bits(1, 9, 13, 17));
        Due.due("18: where(51, 1)", x.where(51, 1), Due.bits(1, 9, 17));
        Due.due("18: where(78, 1)", x.where(78, 1), Due.bits(1, 9));
        Due.due("18: where(87, 1)", x.where(87, 1), Due.bits(9));
        Due.due("18: where(89, 1)", x.where(89, 1), 0);
        Due.due("18: where(80, 0)", x.where(80, 0), Due.bits(1, 9));
    }

    private static void thawIs(IceVote x, int c, int w, int m, int odds, int above, int below) {
        String told = "36: thaw(" + c + ", " + w + ", " + m + ", " + odds + ")";
        Due.due(told, x.thaw(c, w, m, odds), 1);
        Due.due(told + ", above", x.part(0), above);
        Due.due(told + ", below", x.part(1), below);
    }

    private static void thaw() {
        // A night of 6 and 1: what they bear with its frost, and without.
        IceVote x = lake("week 6 1;");
        int[] with = {90, 42, 90, 54, 81, 23};
        int[] without = {78, 36, 82, 40, 75, 19};
        for (int k = 0; k < 6; k++) {
            thawIs(x, CELL[k], with[k] + 1, 1, 3, 0, 1);
            thawIs(x, CELL[k], with[k], 1, 3, 7, 10);
            thawIs(x, CELL[k], without[k] + 1, 1, 3, 7, 10);
            thawIs(x, CELL[k], without[k], 1, 3, 1, 1);
            thawIs(x, CELL[k], BEARS[k], 0, 3, 1, 1);
            thawIs(x, CELL[k], BEARS[k] + 1, 0, 3, 0, 1);
        }
    }

    private static void thawByDays() {
        // From day 2: of 6 and 1, then of 4 and 3; each has frost by 8 of 10.
        IceVote x = lake("week 0 0 0 0 6 1 4 3;");
        x.day(2);
        int[] plain = {93, 92, 84, 80, 72};
        int[] stream = {35, 34, 30, 28, 24};
        int[] above = {0, 16, 4, 24, 1};
        int[] below = {1, 25, 5, 25, 1};
        for (int i = 0; i < 5; i++) {
            thawIs(x, 1, plain[i], 2, 2, above[i], below[i]);
            thawIs(x, 5, stream[i], 2, 2, above[i], below[i]);
        }
    }

    private static void next() {
        // Snow and drifts, streams and mouths may be alike by sun of 1; of no ice all are, but by frost of 3.
        IceVote x = lake("");
        for (int c : CELL) {
            Due.due("33: next(" + c + ")", x.next(c), 1);
        }
        Due.due("33: next(0)", x.next(0), 30);
        Due.due("33: next(24)", x.next(24), 30);
        // Of ICE 1 all but snow and drifts are alike by sun of 1: 4, and by frost of 1 just 2.
        x.lake(1);
        Due.due("33: next(0) of ICE 1", x.next(0), 10);
    }
}
