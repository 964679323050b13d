/** What the kinds of cells and of voters say, where it turns (promises 10, 14 and 15). */
final class KindsEdges {
    private KindsEdges() {
    }

    static void all() {
        plainGrows();
        streamGrows();
        snowGrows();
        bayGrows();
        mouthGrows();
        driftGrows();
        mostIce();
        leastIce();
        plainBears();
        likePlainBears();
        mouthBears();
        driftBears();
        plainVotes();
        brewerVotes();
        ferryVotes();
        fatherVotes();
        partyVotes();
        earVotes();
        beside();
    }

    /** The ICE of a CELL of this KIND behind a DAY. */
    private static void behind(int kind, int ice, int frost, int sun, int want) {
        IceVote x = Lakes.of(ice);
        x.cell(24, kind);
        x.weather(0, frost, sun);
        x.day(1);
        Edge.due("ICE " + ice + " of KIND " + kind + " behind FROST " + frost + ", SUN " + sun, x.of(24, 1), want);
    }

    private static void plainGrows() {
        Edge.of(10, "0 PLAIN: f; s");
        behind(0, 20, 0, 0, 20);
        behind(0, 20, 1, 0, 21);
        behind(0, 20, 9, 0, 29);
        behind(0, 20, 0, 1, 19);
        behind(0, 20, 0, 9, 11);
        behind(0, 20, 9, 9, 20);
    }

    private static void streamGrows() {
        Edge.of(10, "1 STREAM (under PLAIN): half (cut) of PLAIN; 1 more than PLAIN");
        behind(1, 20, 0, 0, 19);
        behind(1, 20, 1, 0, 19);
        behind(1, 20, 2, 0, 20);
        behind(1, 20, 8, 0, 23);
        behind(1, 20, 9, 0, 23);
        behind(1, 20, 0, 1, 18);
        behind(1, 20, 0, 9, 10);
    }

    private static void snowGrows() {
        Edge.of(10, "2 SNOW (under PLAIN): 2 less than PLAIN, 0 at least; half (cut) of PLAIN");
        behind(2, 20, 0, 0, 20);
        behind(2, 20, 1, 0, 20);
        behind(2, 20, 2, 0, 20);
        behind(2, 20, 3, 0, 21);
        behind(2, 20, 9, 0, 27);
        behind(2, 20, 0, 1, 20);
        behind(2, 20, 0, 2, 19);
        behind(2, 20, 0, 8, 16);
        behind(2, 20, 0, 9, 16);
    }

    private static void bayGrows() {
        Edge.of(10, "3 BAY (under PLAIN): 1 more than PLAIN, if f is 1 or more; as PLAIN");
        behind(3, 20, 0, 0, 20);
        behind(3, 20, 1, 0, 22);
        behind(3, 20, 9, 0, 30);
        behind(3, 20, 0, 1, 19);
        behind(3, 20, 0, 9, 11);
    }

    private static void mouthGrows() {
        Edge.of(10, "4 MOUTH (under STREAM): as STREAM, but 0, if i is below 10; as STREAM");
        behind(4, 0, 9, 0, 0);
        behind(4, 9, 9, 0, 8);
        behind(4, 10, 9, 0, 13);
        behind(4, 10, 1, 0, 9);
        behind(4, 20, 2, 0, 20);
        behind(4, 20, 0, 0, 19);
        behind(4, 20, 0, 9, 10);
    }

    private static void driftGrows() {
        Edge.of(10, "5 DRIFT (under SNOW): as SNOW; as SNOW");
        behind(5, 20, 0, 0, 20);
        behind(5, 20, 2, 0, 20);
        behind(5, 20, 3, 0, 21);
        behind(5, 20, 9, 0, 27);
        behind(5, 20, 0, 1, 20);
        behind(5, 20, 0, 9, 16);
    }

    private static void mostIce() {
        Edge.of(10, "ICE of each CELL is as much more as it GROWS (99 at most)");
        behind(0, 89, 9, 0, 98);
        behind(0, 90, 9, 0, 99);
        behind(0, 91, 9, 0, 99);
        behind(0, 99, 9, 0, 99);
        behind(3, 99, 9, 0, 99);
        // It grows no more than that ahead of the sun.
        behind(0, 99, 9, 9, 90);
        behind(0, 95, 9, 5, 94);
        behind(1, 99, 9, 0, 98);
    }

    private static void leastIce() {
        Edge.of(10, "then as much less as it MELTS (0 at least)");
        behind(0, 10, 0, 9, 1);
        behind(0, 9, 0, 9, 0);
        behind(0, 8, 0, 9, 0);
        behind(0, 0, 0, 9, 0);
        behind(0, 0, 5, 9, 0);
        behind(1, 0, 0, 0, 0);
        behind(5, 3, 0, 9, 0);
        IceVote x = Due.told("lake 3;week 0 9 1 0;");
        Edge.due("day(2)", x.day(2), 25);
    }

    private static void bears(int kind, int ice, int want) {
        IceVote x = Lakes.of(ice);
        x.cell(0, kind);
        Edge.due("what ICE " + ice + " of KIND " + kind + " BEARS", x.of(0, 2), want);
    }

    private static void plainBears() {
        Edge.of(14, "0 PLAIN: f; s; twice i");
        bears(0, 0, 0);
        bears(0, 1, 2);
        bears(0, 98, 196);
        bears(0, 99, 198);
    }

    private static void likePlainBears() {
        Edge.of(14, "KINDS of CELLS, each under the one told");
        for (int kind = 1; kind <= 3; kind++) {
            bears(kind, 0, 0);
            bears(kind, 1, 2);
            bears(kind, 99, 198);
        }
    }

    private static void mouthBears() {
        Edge.of(14, "5 less than STREAM, 0 at least");
        bears(4, 0, 0);
        bears(4, 1, 0);
        bears(4, 2, 0);
        bears(4, 3, 1);
        bears(4, 99, 193);
    }

    private static void driftBears() {
        Edge.of(14, "half (cut up) of SNOW");
        bears(5, 0, 0);
        bears(5, 1, 1);
        bears(5, 2, 2);
        bears(5, 99, 99);
    }

    /** Whether one of this KIND votes yes on a lake whose cells are all of one KIND. */
    private static void votes(int kind, int weight, int cells, int ice, int frost, int want) {
        IceVote x = Due.told("lake " + ice + ";cell " + cells + " " + Lakes.EACH + ";week " + frost + " 0;");
        x.voter(kind, weight, 12);
        Edge.due("KIND " + kind + ", WEIGHT " + weight + ", on " + x.of(12, 2) + " by FROST " + frost, x.about(0, 3), want);
        Edge.due("votes(0) of it", x.votes(0), want);
    }

    private static void plainVotes() {
        Edge.of(15, "0 PLAIN: b is w or more");
        votes(0, 40, 0, 20, 0, 1);
        votes(0, 41, 0, 20, 0, 0);
        votes(0, 1, 0, 0, 0, 0);
        votes(0, 1, 0, 1, 0, 1);
        votes(0, 99, 5, 99, 0, 1);
        votes(0, 99, 5, 98, 9, 0);
    }

    private static void brewerVotes() {
        Edge.of(15, "1 BREWER (under PLAIN): as PLAIN, and b is 40 or more");
        votes(1, 1, 5, 39, 0, 0);
        votes(1, 1, 5, 40, 0, 1);
        votes(1, 39, 5, 39, 9, 0);
        votes(1, 40, 5, 40, 0, 1);
        votes(1, 41, 5, 40, 9, 0);
        votes(1, 41, 5, 41, 0, 1);
    }

    private static void ferryVotes() {
        Edge.of(15, "2 FERRY (under PLAIN): no");
        votes(2, 1, 0, 99, 9, 0);
        votes(2, 99, 0, 0, 0, 0);
    }

    private static void fatherVotes() {
        Edge.of(15, "3 FATHER (under PLAIN): as PLAIN, or f is 6 or more");
        votes(3, 99, 0, 0, 5, 0);
        votes(3, 99, 0, 0, 6, 1);
        votes(3, 99, 0, 0, 9, 1);
        votes(3, 40, 0, 20, 0, 1);
        votes(3, 41, 0, 20, 0, 0);
    }

    private static void partyVotes() {
        Edge.of(15, "4 PARTY (under FATHER): yes, if f is 1 or more, else as FATHER");
        votes(4, 99, 0, 0, 0, 0);
        votes(4, 99, 0, 0, 1, 1);
        votes(4, 99, 0, 0, 9, 1);
        votes(4, 40, 0, 20, 0, 1);
        votes(4, 41, 0, 20, 0, 0);
    }

    private static void earVotes() {
        Edge.of(15, "5 EAR (under BREWER): as BREWER, and n is w or more");
        votes(5, 1, 5, 39, 9, 0);
        votes(5, 1, 5, 40, 0, 1);
        votes(5, 40, 5, 40, 0, 1);
        votes(5, 41, 5, 40, 9, 0);
        IceVote x = Lakes.of(50);
        x.cell(7, 5);
        x.voter(5, 50, 12);
        x.voter(5, 51, 12);
        x.voter(5, 49, 12);
        Edge.due("WEIGHT 50, the least beside bears 50", x.about(0, 3), 1);
        Edge.due("WEIGHT 51, the least beside bears 50", x.about(1, 3), 0);
        Edge.due("WEIGHT 49, the least beside bears 50", x.about(2, 3), 1);
    }

    /** Who votes by the ice beside hears of each cell beside, and of no other one. */
    private static void beside() {
        Edge.of(15, "BESIDE: next in a row or column");
        for (int c = 0; c < 25; c++) {
            IceVote x = Due.told("lake 30;voter 5 50 " + c + ";");
            for (int other = 0; other < 25; other++) {
                int away = Math.abs(c / 5 - other / 5) + Math.abs(c % 5 - other % 5);
                x.tread(other, 99);
                Edge.due("the ear on " + c + " when " + other + " is broken", x.about(0, 3), away > 1 ? 1 : 0);
                x.undo();
            }
        }
    }
}
