/** Promises 24, 25, 27, 28 and 35 to 37 where they turn: half of the votes, like weights, just borne. */
final class VotesEdges {
    private static final int YES = 4, NEVER = 2;

    private VotesEdges() {
    }

    static void all() {
        moreThanHalf();
        justHalf();
        likeOnesTheFirst();
        nobody();
        wetIfLess();
        wetIfCarried();
        votesOfAll();
        turnToCarry();
        turnNotToCarry();
        turnTheLeast();
        turnNone();
        liesOfFour();
        liesOfWhere();
        stonesOne();
        stonesNone();
        stonesOfWeight();
        twoUnlike();
        twoWhateverTheyDo();
        twoOfCasting();
        twoHeavy();
        twoNotCarried();
        twoBears();
        thawByOdds();
        thawNights();
        thawJustBorne();
        thawLowest();
        wintersDays();
        wintersSeedAtFirst();
        wintersSeed();
        wintersFrost();
        wintersSun();
    }

    /** Voters on thick ice who vote so (y, n), by these weights. */
    private static IceVote voters(String votes, int... weights) {
        IceVote x = Due.told("lake 99;week 1 0;");
        for (int v = 0; v < votes.length(); v++) {
            x.voter(votes.charAt(v) == 'y' ? YES : NEVER, weights[v], v);
        }
        return x;
    }

    private static void carried(int want, String votes, int... weights) {
        Edge.due("votes(1) of " + votes + " by " + java.util.Arrays.toString(weights), voters(votes, weights).votes(1), want);
    }

    private static void moreThanHalf() {
        Edge.of(24, "CARRIED: more than half vote YES");
        carried(1, "y", 1);
        carried(0, "n", 99);
        carried(0, "ynn", 99, 1, 1);
        carried(1, "yyn", 1, 1, 99);
        carried(0, "ynnn", 99, 1, 1, 1);
        carried(1, "nyyy", 99, 1, 1, 1);
        carried(0, "yyynnnn", 99, 99, 99, 1, 1, 1, 1);
        carried(1, "nnnyyyy", 99, 99, 99, 1, 1, 1, 1);
    }

    private static void justHalf() {
        Edge.of(24, "or just half, if the one of most WEIGHT");
        carried(1, "yn", 2, 1);
        carried(0, "yn", 1, 2);
        carried(1, "ny", 98, 99);
        carried(0, "ny", 99, 98);
        carried(1, "nnnyyy", 2, 2, 2, 1, 1, 3);
        carried(0, "yyynnn", 2, 2, 2, 1, 1, 3);
    }

    private static void likeOnesTheFirst() {
        Edge.of(24, "(of like ones the first) does");
        carried(1, "yn", 5, 5);
        carried(0, "ny", 5, 5);
        carried(1, "nyyn", 1, 9, 1, 9);
        carried(0, "ynny", 1, 9, 1, 9);
        carried(1, "nnnyyy", 1, 1, 1, 9, 9, 9);
        carried(0, "ynnnyy", 1, 1, 1, 9, 9, 9);
    }

    private static void nobody() {
        Edge.of(24, "nobody: no. WET");
        IceVote x = Due.told("lake 99;week 9 0;");
        for (int what = 0; what <= 2; what++) {
            Edge.due("votes(" + what + ")", x.votes(what), 0);
        }
    }

    private static void wetIfLess() {
        Edge.of(24, "whose CELL BEARS less than their WEIGHT. THE LAKE");
        // The drift bears 20, the others 40.
        IceVote x = Due.told("lake 20;cell 5 1;week 1 0;voter 4 40 0;voter 4 41 0;voter 4 20 1;voter 4 21 1;voter 4 1 2;");
        Edge.due("votes(2)", x.votes(2), Due.bits(1, 3));
        x.tread(2, 99);
        Edge.due("votes(2) with a broken one", x.votes(2), Due.bits(1, 3, 4));
    }

    private static void wetIfCarried() {
        Edge.of(24, "WET: those who vote YES, CARRIED");
        IceVote x = Due.told("lake 0;week 1 0;voter 4 9 0;voter 2 8 0;");
        Edge.due("votes(2), carried", x.votes(2), 1);
        x.voter(2, 10, 0);
        Edge.due("votes(1), 1 of 3", x.votes(1), 0);
        Edge.due("votes(2), 1 of 3", x.votes(2), 0);
        x.voter(4, 10, 0);
        Edge.due("votes(1), 2 of 4 and not the heaviest", x.votes(1), 0);
        Edge.due("votes(2), 2 of 4 and not the heaviest", x.votes(2), 0);
    }

    private static void votesOfAll() {
        Edge.of(24, "YES (0; bits), CARRIED (1; 1, 0), WET (2; bits)");
        IceVote x = Due.told("lake 0;week 1 0;");
        for (int v = 0; v < 7; v++) {
            x.voter(4, 99, 24);
        }
        Edge.due("votes(0) of seven", x.votes(0), 127);
        Edge.due("votes(1) of seven", x.votes(1), 1);
        Edge.due("votes(2) of seven", x.votes(2), 127);
        x.day(1);
        for (int what = 0; what <= 2; what++) {
            Edge.due("votes(" + what + ") of none of seven", x.votes(what), 0);
        }
    }

    private static void turned(int want, String votes, int... weights) {
        Edge.due("turn() of " + votes + " by " + java.util.Arrays.toString(weights), voters(votes, weights).turn(), want);
    }

    private static void turnToCarry() {
        Edge.of(25, "TURN: the fewest VOTERS who must vote otherwise than they do so that it is CARRIED if it is not");
        turned(1, "n", 1);
        turned(1, "nn", 1, 1);
        turned(2, "nn", 1, 2);
        turned(3, "nnn", 1, 1, 1);
        turned(1, "nyn", 1, 1, 9);
        turned(15, "nnnnnnn", 9, 9, 9, 9, 9, 9, 9);
        turned(Due.bits(0, 1, 5), "nnnnnn", 1, 1, 1, 1, 1, 2);
        turned(2, "ynny", 1, 9, 1, 1);
    }

    private static void turnNotToCarry() {
        Edge.of(25, "not if it is: bits");
        turned(1, "y", 1);
        turned(1, "yy", 1, 1);
        turned(2, "yy", 1, 2);
        turned(3, "yyy", 1, 1, 1);
        turned(15, "yyyyyyy", 9, 9, 9, 9, 9, 9, 9);
        turned(7, "yyyyyy", 2, 1, 1, 1, 1, 1);
        turned(Due.bits(0, 1, 5), "yyyyyy", 1, 1, 1, 1, 1, 2);
        turned(1, "yn", 2, 1);
    }

    private static void turnTheLeast() {
        Edge.of(25, "not if it is: bits (of like ones the least)");
        turned(1, "nny", 1, 1, 1);
        turned(2, "ynn", 1, 1, 1);
        turned(1, "yny", 1, 1, 1);
        turned(2, "nyy", 1, 1, 1);
        turned(2, "nyyn", 1, 9, 1, 1);
        turned(Due.bits(0, 1), "nnnny", 1, 2, 3, 4, 5);
    }

    private static void turnNone() {
        Edge.of(25, "(of like ones the least); none. SEEN");
        Edge.due("turn() of nobody", new IceVote().turn(), IceVote.NONE);
        Edge.due("turn() of nobody by frost", Due.told("lake 99;week 9 0;").turn(), IceVote.NONE);
        Edge.of(25, "TURN, as bits. NONE");
        Edge.due("turn() behind lake(0)", lakeAnew().turn(), IceVote.NONE);
    }

    private static IceVote lakeAnew() {
        IceVote x = Lakes.full();
        x.lake(0);
        return x;
    }

    private static void liesOfFour() {
        Edge.of(27, "whose word is more than ICE of their four CELLS together by 4 (cut)");
        IceVote x = Lakes.of(10);
        int[] corners = {0, 4, 20, 24};
        for (int w = 0; w < 4; w++) {
            x.ward(w, 10);
        }
        Edge.due("lies() by 10 of 40", x.lies(), 0);
        for (int w = 0; w < 4; w++) {
            x.tread(corners[w], 20);
            Edge.due("lies() by 10 of 39, up to " + w, x.lies(), (2 << w) - 1);
        }
        x.ward(0, 9);
        Edge.due("lies() by 9 of 39", x.lies(), 14);
        x.tread(0, 1);
        x.tread(0, 1);
        x.tread(0, 1);
        Edge.due("lies() by 9 of 36", x.lies(), 14);
        x.tread(0, 1);
        Edge.due("lies() by 9 of 35", x.lies(), 15);
        x = new IceVote();
        Edge.due("lies() by 0 of 0", x.lies(), 0);
        x.ward(3, 1);
        Edge.due("lies() by 1 of 0", x.lies(), 8);
        x = Lakes.of(99);
        x.ward(3, 99);
        Edge.due("lies() by 99 of 396", x.lies(), 0);
        x.tread(24, 1);
        Edge.due("lies() by 99 of 395", x.lies(), 8);
    }

    private static void liesOfWhere() {
        Edge.of(27, "ward w has the CELLS of rows 0, 1 (w 0, 1) or 3, 4 (w 2, 3) and columns 0, 1 (w 0, 2) or 3, 4 (w 1, 3)");
        int[] wards = {1, 1, 0, 2, 2, 1, 1, 0, 2, 2, 0, 0, 0, 0, 0, 4, 4, 0, 8, 8, 4, 4, 0, 8, 8};
        for (int c = 0; c < 25; c++) {
            IceVote x = Lakes.of(10);
            for (int w = 0; w < 4; w++) {
                x.ward(w, 10);
            }
            x.tread(c, 1);
            Edge.due("lies() with less on " + c, x.lies(), wards[c]);
        }
    }

    private static void stonesOne() {
        Edge.of(28, "the one that does not BEAR it, if the other one does");
        IceVote x = Lakes.of(99);
        x.tread(0, 1);
        Edge.due("stones(198, 0, 24)", x.stones(198, 0, 24), 0);
        Edge.due("stones(198, 24, 0)", x.stones(198, 24, 0), 0);
        Edge.due("stones(197, 24, 0)", x.stones(197, 24, 0), 0);
        x = Lakes.of(0);
        x.cell(24, 3);
        x.weather(0, 1, 0);
        x.day(1);
        Edge.due("stones(4, 24, 0)", x.stones(4, 24, 0), 0);
        Edge.due("stones(3, 0, 24)", x.stones(3, 0, 24), 0);
    }

    private static void stonesNone() {
        Edge.of(28, "none: both do, or neither");
        IceVote x = Lakes.of(99);
        x.tread(0, 1);
        Edge.due("stones(196, 0, 24), both", x.stones(196, 0, 24), IceVote.NONE);
        Edge.due("stones(1, 0, 24), both", x.stones(1, 0, 24), IceVote.NONE);
        Edge.due("stones(198, 1, 24), both", x.stones(198, 1, 24), IceVote.NONE);
        x.tread(24, 1);
        Edge.due("stones(197, 0, 24), neither", x.stones(197, 0, 24), IceVote.NONE);
        x = new IceVote();
        Edge.due("stones(1, 0, 24), neither", x.stones(1, 0, 24), IceVote.NONE);
        Edge.of(28, "STONES: the CELL. NONE");
        Edge.due("stones(198, 23, 24) of none", x.stones(198, 23, 24), IceVote.NONE);
    }

    private static void stonesOfWeight() {
        Edge.of(28, "STONES: a stone of w (1 .. 198) each on two unlike CELLS a, b");
        for (int b = 1; b < 25; b++) {
            IceVote x = Lakes.of(99);
            x.tread(b, 1);
            Edge.due("stones(198, 0, " + b + ")", x.stones(198, 0, b), b);
            Edge.due("stones(1, " + b + ", 0)", x.stones(1, b, 0), IceVote.NONE);
            x.stone(b);
            x.tread(b, 99);
            Edge.due("stones(1, " + b + ", 0), broken", x.stones(1, b, 0), b);
        }
    }

    /** Two voters of these weights on cells that bear 40, and others who vote so, as heavy as 30. */
    private static IceVote two(int weightA, int weightB, String others) {
        IceVote x = Due.told("lake 20;week 1 0;");
        x.voter(NEVER, weightA, 0);
        x.voter(YES, weightB, 1);
        for (char vote : others.toCharArray()) {
            x.voter(vote == 'y' ? YES : NEVER, 30, 2);
        }
        return x;
    }

    private static void twoUnlike() {
        Edge.of(35, "TWO unlike VOTERS a, b each vote YES or not (all others as they do)");
        // All others let it be carried, or not, whatever the two do.
        Edge.due("two(0, 1) of light ones, carried", two(40, 40, "yyyy").two(0, 1), 15);
        Edge.due("two(0, 1) of heavy ones, not carried", two(41, 41, "nnnnn").two(0, 1), 15);
        Edge.due("two(0, 1) of heavy ones, carried", two(41, 41, "yyyyy").two(0, 1), 1);
        Edge.due("two(5, 6)", two(41, 41, "yyyyy").two(5, 6), 15);
        Edge.due("two(6, 0)", two(41, 41, "yyyyy").two(6, 0), 3);
        Edge.due("two(0, 6)", two(41, 41, "yyyyy").two(0, 6), 5);
    }

    /** What the two do now counts for nothing. */
    private static void twoWhateverTheyDo() {
        Edge.of(35, "(all others as they do)");
        for (int now = 0; now < 4; now++) {
            IceVote x = Due.told("lake 20;week 1 0;voter 2 1 0;voter 4 1 0;");
            x.voter((now & 1) == 1 ? YES : NEVER, 40, 0);
            x.voter((now & 2) == 2 ? YES : NEVER, 41, 1);
            x.voter(NEVER, 39, 0);
            x.voter(YES, 41, 1);
            // Two of the others vote yes: it is carried if 3 does so, too, who has the casting vote and is heavy.
            Edge.due("two(2, 3) by " + now, x.two(2, 3), Due.bits(0, 1));
            Edge.due("two(3, 2) by " + now, x.two(3, 2), Due.bits(0, 2));
        }
    }

    private static void twoOfCasting() {
        Edge.of(35, "(bits: 0 neither votes YES, 1 a, 2 b, 3 both");
        // Of two alike the first one has the casting vote.
        Edge.due("two(0, 1) of light ones", two(40, 40, "").two(0, 1), Due.bits(1, 3));
        Edge.due("two(1, 0) of light ones", two(40, 40, "").two(1, 0), Due.bits(2, 3));
        Edge.due("two(0, 1) of light ones, the second one heavier", two(39, 40, "").two(0, 1), Due.bits(2, 3));
    }

    private static void twoHeavy() {
        Edge.of(35, "else -3, if one votes YES, -1, if not");
        Edge.due("two(0, 1) of heavy ones", two(41, 41, "").two(0, 1), Due.bits(0, 2));
        Edge.due("two(1, 0) of heavy ones", two(41, 41, "").two(1, 0), Due.bits(0, 1));
        Edge.due("two(0, 1), the second one heavier", two(41, 42, "").two(0, 1), Due.bits(0, 1));
        // One more makes it carried, and who is wet would rather have it the other one.
        Edge.due("two(0, 1) beside one who votes yes", two(41, 41, "y").two(0, 1), Due.bits(0));
        Edge.due("two(0, 1) beside one of two", two(41, 41, "yn").two(0, 1), Due.bits(0, 2));
    }

    private static void twoNotCarried() {
        Edge.of(35, "to each 0, if it is not CARRIED");
        Edge.due("two(0, 1), never carried", two(40, 41, "nnnnn").two(0, 1), 15);
        Edge.due("two(0, 1), light ones beside two", two(40, 40, "nn").two(0, 1), Due.bits(0, 3));
        Edge.due("two(0, 1), heavy ones beside two", two(41, 41, "nn").two(0, 1), Due.bits(0, 1, 2));
    }

    private static void twoBears() {
        Edge.of(35, "else 2, if one's CELL BEARS one's WEIGHT");
        Edge.due("two(0, 1), 40 and 41 of 40, carried", two(40, 41, "yyyy").two(0, 1), Due.bits(0, 1));
        Edge.due("two(0, 1), 41 and 40 of 40, carried", two(41, 40, "yyyy").two(0, 1), Due.bits(0, 2));
        Edge.of(35, "neither would get more by doing otherwise");
        Edge.due("two(0, 1), 40 and 41 of 40", two(40, 41, "").two(0, 1), Due.bits(0, 1));
        Edge.due("two(0, 1), 41 and 40 of 40", two(41, 40, "").two(0, 1), Due.bits(0, 2));
    }

    private static void thawIs(IceVote x, int c, int w, int m, int odds, int above, int below) {
        String call = "thaw(" + c + ", " + w + ", " + m + ", " + odds + ")";
        Edge.due(call, x.thaw(c, w, m, odds), 1);
        Edge.due("part(0) behind " + call, x.part(0), above);
        Edge.due("part(1) behind " + call, x.part(1), below);
    }

    private static IceVote frostyWeek() {
        return Due.told("lake 0;cell 3 24;week 1 0 1 0 1 0 1 0 1 0 1 0 1 0;");
    }

    private static void thawByOdds() {
        Edge.of(36, "by c of 10 (0 .. 10) there is no FROST in a night, apart");
        IceVote x = frostyWeek();
        thawIs(x, 0, 1, 1, 0, 1, 1);
        thawIs(x, 0, 1, 1, 1, 9, 10);
        thawIs(x, 0, 1, 1, 9, 1, 10);
        thawIs(x, 0, 1, 1, 10, 0, 1);
        thawIs(x, 0, 2, 8, 3, 99993439, 100000000);
        thawIs(x, 0, 16, 8, 3, 5764801, 100000000);
        // No FROST is one of 0, by which a bay grows none.
        thawIs(x, 24, 1, 1, 3, 7, 10);
        thawIs(x, 24, 3, 1, 3, 7, 10);
    }

    private static void thawNights() {
        Edge.of(36, "BEARS w (1 .. 198) or more behind m (0 .. 8) DAYS");
        IceVote x = frostyWeek();
        thawIs(x, 0, 1, 0, 0, 0, 1);
        thawIs(x, 0, 1, 8, 5, 255, 256);
        thawIs(x, 0, 16, 8, 0, 1, 1);
        thawIs(x, 0, 16, 7, 0, 0, 1);
        x = Lakes.of(99);
        thawIs(x, 24, 198, 0, 10, 1, 1);
        thawIs(x, 24, 198, 8, 10, 1, 1);
    }

    private static void thawJustBorne() {
        Edge.of(36, "the chance that a CELL BEARS w (1 .. 198) or more");
        IceVote x = frostyWeek();
        thawIs(x, 0, 2, 1, 0, 1, 1);
        thawIs(x, 0, 3, 1, 0, 0, 1);
        thawIs(x, 24, 4, 1, 0, 1, 1);
        thawIs(x, 24, 5, 1, 0, 0, 1);
        x = Lakes.of(99);
        x.tread(0, 1);
        thawIs(x, 0, 196, 0, 0, 1, 1);
        thawIs(x, 0, 197, 0, 0, 0, 1);
        thawIs(x, 0, 198, 8, 0, 0, 1);
    }

    private static void thawLowest() {
        Edge.of(36, "THE FRACTION is 0 by 1 at first; lowest terms, below above 0");
        IceVote x = frostyWeek();
        thawIs(x, 0, 1, 1, 5, 1, 2);
        thawIs(x, 0, 1, 1, 4, 3, 5);
        thawIs(x, 0, 3, 1, 4, 0, 1);
        thawIs(x, 0, 3, 2, 5, 1, 4);
        thawIs(x, 0, 1, 1, 0, 1, 1);
        thawIs(x, 0, 16, 8, 2, 65536, 390625);
        thawIs(x, 0, 17, 8, 2, 0, 1);
    }

    /** Voters of this KIND on mouths that never grow thick, so that all who vote yes are wet. */
    private static IceVote onMouths(int kind, int voters) {
        IceVote x = Due.told("lake 0;cell 4 " + Lakes.EACH + ";");
        for (int v = 0; v < voters; v++) {
            x.voter(kind, 1, v);
        }
        return x;
    }

    private static void wintersDays() {
        Edge.of(37, "n (0 .. 60) DAYS");
        // By SEED 0 the first night is of FROST 0, the second of 8, the tenth of 0 again.
        IceVote x = onMouths(YES, 1);
        int[] days = {0, 1, 2, 3, 9, 10, 11, 60};
        int[] wet = {0, 0, 1, 2, 8, 8, 9, 54};
        for (int i = 0; i < days.length; i++) {
            Edge.due("winters(0, " + days[i] + ")", x.winters(0, days[i]), wet[i]);
        }
        Edge.due("winters(0, 60) of seven", onMouths(YES, 7).winters(0, 60), 7 * 54);
        Edge.due("winters(0, 60) of nobody", onMouths(YES, 0).winters(0, 60), 0);
    }

    private static void wintersSeedAtFirst() {
        Edge.of(37, "X is SEED at first");
        // The first DAY is by the X that comes of SEED: by that of 1 there is FROST, though 1 has none,
        // and by that of 65546 there is none, though 65546 has some.
        Edge.due("winters(1, 1)", onMouths(YES, 1).winters(1, 1), 1);
        Edge.due("winters(65546, 1)", onMouths(YES, 1).winters(65546, 1), 0);
        Edge.of(37, "X by 65536 (cut)");
        // 22290 times 65536 and 11202; 19081 times it and 3611.
        Edge.due("winters(13, 1)", onMouths(YES, 1).winters(13, 1), 0);
        Edge.due("winters(42, 1)", onMouths(YES, 1).winters(42, 1), 1);
        Edge.of(37, "X by 1048576 (cut)");
        // 1723 times 1048576 and 1238, 1629 times it and 1047180: FROST 8, SUN 3 and FROST 9, SUN 9.
        int[] seeds = {241, 959};
        int[] bears = {50, 40};
        for (int i = 0; i < 2; i++) {
            IceVote x = Lakes.of(20);
            x.voter(YES, bears[i], 0);
            Edge.due("winters(" + seeds[i] + ", 1) of " + bears[i], x.winters(seeds[i], 1), 0);
            x.lake(20);
            x.voter(YES, bears[i] + 1, 0);
            Edge.due("winters(" + seeds[i] + ", 1) of " + (bears[i] + 1), x.winters(seeds[i], 1), 1);
        }
    }

    private static void wintersSeed() {
        Edge.of(37, "WINTERS by a SEED (0 .. 999999)");
        int[] seeds = {0, 1, 999999};
        int[] wet = {54, 57, 57};
        int[] fathers = {19, 23, 31};
        for (int i = 0; i < seeds.length; i++) {
            Edge.due("winters(" + seeds[i] + ", 60)", onMouths(YES, 1).winters(seeds[i], 60), wet[i]);
            Edge.due("winters(" + seeds[i] + ", 60) of a father", onMouths(3, 1).winters(seeds[i], 60), fathers[i]);
        }
        Edge.of(37, "by 2147483648 what is left over");
        // FROST of 8, 8, 3, 5, 1, 7: the first X is less than that, what the others come from is more.
        Edge.due("winters(1, 1) of a father", onMouths(3, 1).winters(1, 1), 1);
        Edge.due("winters(1, 2) of a father", onMouths(3, 1).winters(1, 2), 2);
        Edge.due("winters(1, 5) of a father", onMouths(3, 1).winters(1, 5), 2);
        Edge.due("winters(1, 6) of a father", onMouths(3, 1).winters(1, 6), 3);
    }

    private static void wintersFrost() {
        Edge.of(37, "(FROST of that DAY counting for votes)");
        IceVote x = onMouths(YES, 1);
        for (int d = 0; d < 7; d++) {
            x.weather(d, 9, 9);
        }
        Edge.due("winters(0, 1), the week's FROST is 9", x.winters(0, 1), 0);
        Edge.due("winters(0, 60), the week's FROST is 9", x.winters(0, 60), 54);
    }

    private static void wintersSun() {
        Edge.of(37, "X by 65536 (cut), by 10 left over, is its FROST, X by 1048576 (cut), by 10 left over, its SUN");
        // By SEED 7 the ICE of 10 is 12, 16, 15, 12, 10, 15, 17, 11, 7, 8 behind 1, 2, .. DAYS; only on
        // the eighth there is no FROST.
        int[] weights = {14, 15, 16, 17, 23, 99};
        int[] nine = {0, 1, 1, 1, 2, 8};
        int[] ten = {0, 1, 1, 2, 3, 9};
        for (int i = 0; i < weights.length; i++) {
            IceVote x = Lakes.of(10);
            x.voter(YES, weights[i], 24);
            Edge.due("winters(7, 9) of " + weights[i], x.winters(7, 9), nine[i]);
            Edge.due("winters(7, 10) of " + weights[i], x.winters(7, 10), ten[i]);
        }
    }
}
