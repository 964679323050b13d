/** Promises 24 to 37: votes, wards' words, notes, what one is, pairs that rest, odds and winters. */
public final class VotesTest {
    public static void main(String[] args) {
        votes();
        votesByHalf();
        turn();
        seen();
        lies();
        stones();
        note();
        voted();
        forget();
        is();
        next();
        who();
        two();
        thaw();
        winters();
        Due.end();
    }

    private static void votesAre(String text, int yes, int carried, int wet) {
        IceVote x = Due.told(text);
        Due.due("24: YES, " + text, x.votes(0), yes);
        Due.due("24: CARRIED, " + text, x.votes(1), carried);
        Due.due("24: WET, " + text, x.votes(2), wet);
    }

    private static void votes() {
        votesAre("lake 20;week 1 0;voter 4 50 0;voter 0 40 1;voter 0 99 2;", 3, 1, 1);
        votesAre("lake 20;week 1 0;voter 4 50 0;voter 0 41 1;voter 0 99 2;", 1, 0, 0);
        votesAre("lake 20;week 6 0;voter 3 50 0;voter 3 51 1;voter 2 1 2;", 3, 1, 3);
        votesAre("lake 20;week 6 0;voter 4 41 0;voter 4 40 1;voter 0 40 2;", 7, 1, 1);
        votesAre("lake 20;", 0, 0, 0);
        IceVote x = Due.told("lake 20;voter 4 50 0;week 1 0;");
        x.day(1);
        Due.due("24: by the DAY's frost", x.votes(0), 0);
        Due.due("24: votes(3)", x.votes(3), IceVote.BAD);
        Due.due("24: votes(-1)", x.votes(-1), IceVote.BAD);
    }

    private static void votesByHalf() {
        votesAre("lake 20;voter 0 40 0;voter 2 41 0;", 1, 0, 0);
        votesAre("lake 20;voter 0 40 0;voter 2 39 0;", 1, 1, 0);
        votesAre("lake 20;voter 0 40 0;voter 2 40 0;", 1, 1, 0);
        votesAre("lake 20;voter 2 40 0;voter 0 40 0;", 2, 0, 0);
        votesAre("lake 20;voter 2 1 0;voter 0 1 0;voter 0 40 0;voter 2 40 0;", 6, 1, 0);
        votesAre("lake 20;voter 2 1 0;voter 0 1 0;voter 2 40 0;voter 0 40 0;", 10, 0, 0);
        votesAre("lake 20;week 6 0;voter 2 1 0;voter 3 90 0;", 2, 1, 2);
        votesAre("lake 20;week 6 0;voter 2 91 0;voter 3 90 0;", 2, 0, 0);
        IceVote x = Due.told("lake 20;voter 2 1 0;voter 2 1 0;voter 2 99 0;");
        x.lake(20);
        x.voter(2, 30, 0);
        x.voter(0, 40, 0);
        Due.due("24: who was there weighs no more", x.votes(1), 1);
    }

    private static void turnIs(String text, int want) {
        Due.due("25: " + text, Due.told(text).turn(), want);
    }

    private static void turn() {
        turnIs("lake 20;", IceVote.NONE);
        turnIs("lake 20;voter 0 1 0;", 1);
        turnIs("lake 20;voter 2 1 0;", 1);
        turnIs("lake 20;voter 2 30 0;voter 2 40 0;", 2);
        turnIs("lake 20;voter 2 40 0;voter 2 40 0;", 1);
        turnIs("lake 20;voter 0 39 0;voter 2 38 0;", 1);
        turnIs("lake 20;voter 0 38 0;voter 2 39 0;", 2);
        turnIs("lake 20;voter 2 1 0;voter 0 2 0;voter 2 3 0;", 1);
        turnIs("lake 20;voter 0 1 0;voter 0 2 0;voter 0 3 0;", 3);
        turnIs("lake 20;voter 2 1 0;voter 2 2 0;voter 2 3 0;voter 2 4 0;", 9);
        turnIs("lake 20;voter 2 1 0;voter 0 2 0;voter 2 3 0;voter 0 4 0;voter 0 5 0;", 2);
        turnIs("lake 20;voter 0 1 0;voter 2 2 0;voter 2 3 0;voter 2 4 0;voter 2 5 0;", 6);
        // The ones of a carried vote that are to turn may be fewer than the yes ones are.
        turnIs("lake 20;voter 0 9 0;voter 0 1 0;voter 2 1 0;voter 2 1 0;", 1);
        turnIs("lake 20;voter 2 1 0;voter 2 1 0;voter 0 1 0;voter 0 9 0;", 4);
    }

    private static void seen() {
        // Voter 0 is heavier than its cell bears.
        IceVote x = Due.told("lake 20;voter 2 50 0;voter 0 30 1;");
        long before = x.digest();
        Due.due("26: seen(1, 0)", x.seen(1, 0), 2);
        Due.due("26: seen(1, 1)", x.seen(1, 1), 1);
        Due.due("26: seen(1, 2)", x.seen(1, 2), 3);
        Due.due("26: seen(0, 0)", x.seen(0, 0), 0);
        Due.due("26: seen(0, 1)", x.seen(0, 1), IceVote.NONE);
        Due.due("26: seen(0, 2)", x.seen(0, 2), 0);
        Due.due("26: one who is not heavy", x.seen(2, 0), 0);
        Due.due("26: both", x.seen(3, 1), IceVote.NONE);
        Due.due("26: nothing is changed", x.digest(), before);
        Due.due("26: seen(4, 0)", x.seen(4, 0), IceVote.BAD);
        Due.due("26: seen(-1, 0)", x.seen(-1, 0), IceVote.BAD);
        Due.due("26: seen(0, 3)", x.seen(0, 3), IceVote.BAD);
        Due.due("26: seen(0, -1)", x.seen(0, -1), IceVote.BAD);
        x = Due.told("lake 20;voter 0 50 0;voter 0 60 1;voter 0 10 2;voter 0 10 3;voter 0 10 4;");
        Due.due("26: 0 alone is wet", x.seen(1, 0), 4);
        Due.due("26: 0 alone, in all", x.seen(1, 1), 1);
        Due.due("26: 0 alone, in some", x.seen(1, 2), 29);
        Due.due("26: 0 and 1", x.seen(3, 0), 7);
        Due.due("26: 0 and 1, in all", x.seen(3, 1), 3);
        Due.due("26: nobody", x.seen(0, 0), 1);
        Due.due("26: nobody, in all", x.seen(0, 1), 28);
        Due.due("26: seen(31, 0)", x.seen(31, 0), 0);
        Due.due("26: seen(32, 0)", x.seen(32, 0), IceVote.BAD);
        x = new IceVote();
        Due.due("26: no voters", x.seen(0, 0), 0);
        Due.due("26: no voters, wet 1", x.seen(1, 0), IceVote.BAD);
    }

    private static void lies() {
        int[] bays = {0, 0, -1, 1, 1, 0, 0, -1, 1, 1, -1, -1, -1, -1, -1, 2, 2, -1, 3, 3, 2, 2, -1, 3, 3};
        for (int c = 0; c < 25; c++) {
            IceVote x = Due.told("lake 10;");
            for (int w = 0; w < 4; w++) {
                x.ward(w, 10);
            }
            Due.due("27: none", x.lies(), 0);
            x.tread(c, 20);
            // 39 by 4 is 9.
            Due.due("27: cell " + c, x.lies(), bays[c] < 0 ? 0 : 1 << bays[c]);
        }
        IceVote x = Due.told("lake 10;");
        x.ward(1, 11);
        x.ward(3, 99);
        Due.due("27: two", x.lies(), 10);
        x.stone(0);
        x.ward(0, 8);
        Due.due("27: 35 by 4", x.lies(), 10);
        x.ward(0, 9);
        Due.due("27: 9 of 35 by 4", x.lies(), 11);
        x.cell(1, 5);
        x.lake(99);
        x.ward(2, 99);
        Due.due("27: 99", x.lies(), 0);
    }

    private static void stones() {
        IceVote x = Due.told("lake 20;cell 4 1;cell 5 2;");
        Due.due("28: b does not", x.stones(40, 0, 1), 1);
        Due.due("28: a does not", x.stones(40, 1, 0), 1);
        Due.due("28: a mouth and a drift", x.stones(30, 1, 2), 2);
        Due.due("28: both do", x.stones(20, 1, 2), IceVote.NONE);
        Due.due("28: neither does", x.stones(36, 1, 2), IceVote.NONE);
        Due.due("28: neither bears 41", x.stones(41, 0, 24), IceVote.NONE);
        Due.due("28: ICE stays", x.count(2), 500);
        Due.due("28: w 0", x.stones(0, 0, 1), IceVote.BAD);
        Due.due("28: w 199", x.stones(199, 0, 1), IceVote.BAD);
        Due.due("28: a 25", x.stones(1, 25, 1), IceVote.BAD);
        Due.due("28: a -1", x.stones(1, -1, 1), IceVote.BAD);
        Due.due("28: b 25", x.stones(1, 0, 25), IceVote.BAD);
        Due.due("28: b -1", x.stones(1, 0, -1), IceVote.BAD);
        Due.due("28: alike", x.stones(1, 2, 2), IceVote.BAD);
        x.lake(99);
        x.tread(7, 1);
        Due.due("28: w 198", x.stones(198, 7, 8), 7);
    }

    private static void note() {
        IceVote x = new IceVote();
        for (int i = 1; i <= 6; i++) {
            Due.due("29: note " + i, x.note(24, 99, 9, 9, 99), i);
        }
        Due.due("29: a 7th", x.note(0, 0, 0, 0, 0), IceVote.FULL);
        Due.due("29: BAD ahead of FULL", x.note(25, 0, 0, 0, 0), IceVote.BAD);
        Due.due("29: c -1", x.note(-1, 0, 0, 0, 0), IceVote.BAD);
        Due.due("29: i 100", x.note(0, 100, 0, 0, 0), IceVote.BAD);
        Due.due("29: i -1", x.note(0, -1, 0, 0, 0), IceVote.BAD);
        Due.due("29: f 10", x.note(0, 0, 10, 0, 0), IceVote.BAD);
        Due.due("29: f -1", x.note(0, 0, -1, 0, 0), IceVote.BAD);
        Due.due("29: s 10", x.note(0, 0, 0, 10, 0), IceVote.BAD);
        Due.due("29: s -1", x.note(0, 0, 0, -1, 0), IceVote.BAD);
        Due.due("29: j 100", x.note(0, 0, 0, 0, 100), IceVote.BAD);
        Due.due("29: j -1", x.note(0, 0, 0, 0, -1), IceVote.BAD);
        Due.due("29: count(3)", x.count(3), 6);
        Due.due("29: status FULL", x.status(2), 1);
        x.forget(0);
        Due.due("29: first again", x.note(0, 0, 0, 0, 0), 1);
    }

    private static void voted() {
        IceVote x = Due.told("lake 0;voter 0 1 0;voter 0 1 0;");
        for (int i = 1; i <= 6; i++) {
            Due.due("30: voted " + i, x.voted(i % 2, 1, 198, 198, 9), i);
        }
        Due.due("30: a 7th", x.voted(0, 0, 0, 0, 0), IceVote.FULL);
        Due.due("30: BAD ahead of FULL", x.voted(2, 0, 0, 0, 0), IceVote.BAD);
        Due.due("30: v -1", x.voted(-1, 0, 0, 0, 0), IceVote.BAD);
        Due.due("30: yes 2", x.voted(0, 2, 0, 0, 0), IceVote.BAD);
        Due.due("30: yes -1", x.voted(0, -1, 0, 0, 0), IceVote.BAD);
        Due.due("30: b 199", x.voted(0, 0, 199, 0, 0), IceVote.BAD);
        Due.due("30: b -1", x.voted(0, 0, -1, 0, 0), IceVote.BAD);
        Due.due("30: n 199", x.voted(0, 0, 0, 199, 0), IceVote.BAD);
        Due.due("30: n -1", x.voted(0, 0, 0, -1, 0), IceVote.BAD);
        Due.due("30: f 10", x.voted(0, 0, 0, 0, 10), IceVote.BAD);
        Due.due("30: f -1", x.voted(0, 0, 0, 0, -1), IceVote.BAD);
        Due.due("30: count(4)", x.count(4), 6);
        Due.due("30: status FULL", x.status(2), 1);
    }

    private static void forget() {
        IceVote x = Due.told("lake 0;voter 0 1 0;");
        x.note(0, 0, 0, 0, 1);
        x.note(0, 0, 0, 0, 1);
        x.voted(0, 1, 0, 0, 0);
        Due.due("31: forget(2)", x.forget(2), IceVote.BAD);
        Due.due("31: forget(-1)", x.forget(-1), IceVote.BAD);
        Due.due("31: forget(0)", x.forget(0), 2);
        Due.due("31: forget(0) again", x.forget(0), 0);
        Due.due("31: VOTED stay", x.count(4), 1);
        Due.due("31: is(0)", x.is(0), 63);
        Due.due("31: who(0) by one", x.who(0), 0);
        Due.due("31: forget(1)", x.forget(1), 1);
        Due.due("31: forget(1) again", x.forget(1), 0);
        Due.due("31: who(0)", x.who(0), 63);
    }

    private static void is() {
        int[] behind = {27, 22, 25, 28, 22, 25};
        int[] kinds = {1, 18, 36, 8, 18, 36};
        for (int kind = 0; kind < 6; kind++) {
            IceVote x = new IceVote();
            x.note(5, 20, 7, 0, behind[kind]);
            Due.due("32: by " + behind[kind], x.is(5), kinds[kind]);
            Due.due("32: of another cell", x.is(4), 63);
        }
        IceVote x = new IceVote();
        Due.due("32: by no NOTES", x.is(24), 63);
        x.note(5, 20, 7, 0, 22);
        x.note(6, 20, 7, 0, 27);
        Due.due("32: stream or mouth", x.is(5), 18);
        x.note(5, 9, 9, 0, 8);
        Due.due("32: a mouth", x.is(5), 16);
        x.note(5, 9, 9, 0, 12);
        Due.due("32: none", x.is(5), 0);
        Due.due("32: plain", x.is(6), 1);
        x.forget(0);
        x.note(1, 99, 9, 4, 97);
        Due.due("32: 99 at most", x.is(1), 36);
        x.note(2, 3, 1, 9, 0);
        Due.due("32: 0 at least", x.is(2), 63);
        Due.due("32: is(25)", x.is(25), IceVote.BAD);
        Due.due("32: is(-1)", x.is(-1), IceVote.BAD);
    }

    private static void next() {
        IceVote x = Due.told("lake 20;");
        x.note(5, 20, 7, 0, 22);
        Due.due("33: stream or mouth of 20", x.next(5), 0);
        x.stone(5);
        x.stone(5);
        Due.due("33: stream or mouth of 5", x.next(5), 20);
        x.stone(5);
        x.stone(5);
        x.stone(5);
        Due.due("33: stream or mouth of 0", x.next(5), 40);
        x.note(5, 9, 9, 0, 12);
        Due.due("33: a stream", x.next(5), 0);
        x.note(5, 9, 9, 0, 8);
        Due.due("33: none", x.next(5), IceVote.NONE);
        x = Due.told("lake 20;");
        // Plain and bay are alike by no frost, and snow and drift ever.
        Due.due("33: of all", x.next(0), 1);
        x.note(1, 0, 0, 9, 0);
        x.note(1, 20, 0, 5, 15);
        Due.due("33: plain or bay", x.is(1) == 9 ? x.next(1) : 99, 10);
        x.note(2, 20, 2, 0, 20);
        Due.due("33: stream, snow, mouth or drift", x.is(2) == 54 ? x.next(2) : 99, 0);
        x.lake(99);
        x.note(1, 20, 0, 5, 15);
        Due.due("33: of 99", x.next(1), 0);
        Due.due("33: next(25)", x.next(25), IceVote.BAD);
        Due.due("33: next(-1)", x.next(-1), IceVote.BAD);
    }

    private static void whoIs(String about, int yes, int b, int n, int f, int want) {
        IceVote x = Due.told("lake 0;voter 2 30 0;voter 0 99 0;");
        x.voted(0, yes, b, n, f);
        x.voted(1, 1, 0, 0, 0);
        Due.due("34: " + about, x.who(0), want);
        x.voted(0, 1 - yes, b, n, f);
        Due.due("34: " + about + ", and the other", x.who(0), 0);
    }

    private static void who() {
        whoIs("yes of all but a ferryman", 1, 50, 50, 0, 59);
        whoIs("no of a ferryman", 0, 50, 50, 0, 4);
        whoIs("yes by 39", 1, 39, 50, 0, 25);
        whoIs("yes by 40", 1, 40, 50, 0, 59);
        whoIs("no by 39", 0, 39, 50, 0, 38);
        whoIs("yes by 6 of frost", 1, 29, 0, 6, 24);
        whoIs("yes by 5 of frost", 1, 29, 0, 5, 16);
        whoIs("yes by 1 of frost", 1, 29, 0, 1, 16);
        whoIs("yes by no frost", 1, 29, 0, 0, 0);
        whoIs("yes, 29 beside", 1, 50, 29, 0, 27);
        whoIs("yes, 30 beside", 1, 50, 30, 0, 59);
        whoIs("no, 29 beside", 0, 50, 29, 0, 36);
        IceVote x = Due.told("lake 0;voter 2 30 0;");
        Due.due("34: by none", x.who(0), 63);
        x.voted(0, 1, 50, 50, 0);
        x.voted(0, 0, 39, 50, 0);
        Due.due("34: brewer or ear", x.who(0), 34);
        x.voted(0, 0, 50, 29, 0);
        Due.due("34: ear", x.who(0), 32);
        Due.due("34: who(1)", x.who(1), IceVote.BAD);
        while (x.count(0) < 7) {
            x.voter(3, 70, 24);
        }
        x.forget(1);
        x.voted(6, 0, 60, 60, 0);
        x.voted(6, 1, 70, 60, 0);
        Due.due("34: the last voter", x.who(6), 1 + 2 + 8 + 16);
        for (int what = 0; what < 3; what++) {
            Due.due("15: about(6, " + what + ")", x.about(6, what), new int[] {3, 70, 24}[what]);
        }
        Due.due("34: who(-1)", x.who(-1), IceVote.BAD);
    }

    private static void twoIs(String text, int a, int b, int want) {
        Due.due("35: " + a + " " + b + " of " + text, Due.told(text).two(a, b), want);
    }

    private static void two() {
        String heavy = "lake 20;voter 0 50 0;voter 0 50 1;";
        twoIs(heavy, 0, 1, 5);
        twoIs(heavy, 1, 0, 3);
        String light = "lake 20;voter 0 40 0;voter 0 40 1;";
        twoIs(light, 0, 1, 10);
        twoIs(light, 1, 0, 12);
        String mixed = "lake 20;voter 2 50 0;voter 2 40 1;";
        twoIs(mixed, 0, 1, 5);
        twoIs(mixed, 1, 0, 3);
        String carried = "lake 20;voter 0 50 0;voter 0 50 1;voter 0 1 2;voter 0 1 3;voter 0 1 4;";
        twoIs(carried, 0, 1, 1);
        String carriedLight = "lake 20;voter 0 40 0;voter 0 50 1;voter 0 1 2;voter 0 1 3;voter 0 1 4;";
        twoIs(carriedLight, 0, 1, 3);
        twoIs(carriedLight, 1, 0, 5);
        twoIs(carriedLight, 2, 3, 14);
        String never = "lake 20;voter 2 1 0;voter 2 1 0;voter 2 1 0;voter 2 1 0;voter 2 9 0;voter 0 50 0;";
        twoIs(never, 0, 1, 15);
        IceVote x = Due.told(heavy);
        Due.due("35: two(0, 2)", x.two(0, 2), IceVote.BAD);
        Due.due("35: two(2, 0)", x.two(2, 0), IceVote.BAD);
        Due.due("35: two(-1, 0)", x.two(-1, 0), IceVote.BAD);
        Due.due("35: two(0, -1)", x.two(0, -1), IceVote.BAD);
        Due.due("35: two(1, 1)", x.two(1, 1), IceVote.BAD);
    }

    private static void thawIs(IceVote x, int w, int m, int odds, int above, int below) {
        String about = "36: thaw of " + w + " behind " + m + " by " + odds;
        Due.due(about, x.thaw(0, w, m, odds), 1);
        Due.due(about + ", above", x.part(0), above);
        Due.due(about + ", below", x.part(1), below);
    }

    private static void thaw() {
        IceVote x = Due.told("lake 20;week 3 0 3 0 3 0 3 0 3 0 3 0 3 0;");
        long before = x.digest();
        thawIs(x, 46, 1, 3, 7, 10);
        thawIs(x, 52, 2, 3, 49, 100);
        thawIs(x, 46, 2, 3, 91, 100);
        thawIs(x, 46, 2, 5, 3, 4);
        thawIs(x, 88, 8, 3, 5764801, 100000000);
        thawIs(x, 89, 8, 3, 0, 1);
        thawIs(x, 40, 8, 3, 1, 1);
        thawIs(x, 88, 8, 0, 1, 1);
        thawIs(x, 42, 8, 10, 0, 1);
        thawIs(x, 40, 0, 7, 1, 1);
        thawIs(x, 41, 0, 7, 0, 1);
        thawIs(x, 64, 8, 2, 77312, 78125);
        thawIs(x, 46, 1, 3, 7, 10);
        Due.due("36: w 0", x.thaw(0, 0, 1, 1), IceVote.BAD);
        Due.due("36: w 199", x.thaw(0, 199, 1, 1), IceVote.BAD);
        Due.due("36: c 25", x.thaw(25, 1, 1, 1), IceVote.BAD);
        Due.due("36: c -1", x.thaw(-1, 1, 1, 1), IceVote.BAD);
        Due.due("36: m 9", x.thaw(0, 1, 9, 1), IceVote.BAD);
        Due.due("36: m -1", x.thaw(0, 1, -1, 1), IceVote.BAD);
        Due.due("36: odds 11", x.thaw(0, 1, 1, 11), IceVote.BAD);
        Due.due("36: odds -1", x.thaw(0, 1, 1, -1), IceVote.BAD);
        Due.due("36: THE FRACTION stays", x.part(0) * 100 + x.part(1), 710);
        thawIs(x, 89, 8, 3, 0, 1);
        Due.due("36: all else stays", x.digest(), before);
        IceVote thick = Due.told("lake 99;week 3 0 0 1;");
        thawIs(thick, 198, 0, 5, 1, 1);
        thawIs(thick, 198, 1, 5, 1, 1);
        thawIs(thick, 196, 2, 5, 1, 1);
        thawIs(thick, 197, 2, 5, 0, 1);
        // What has melted to 0 melts no more, so the nights' order counts.
        x = Due.told("lake 0;week 3 0 0 2 4 1;");
        thawIs(x, 2, 2, 3, 7, 10);
        thawIs(x, 8, 3, 3, 49, 100);
        thawIs(x, 6, 3, 3, 7, 10);
        x.cell(0, 3);
        thawIs(x, 4, 2, 3, 7, 10);
        x.lake(8);
        x.weather(0, 9, 0);
        x.cell(0, 1);
        thawIs(x, 22, 1, 4, 3, 5);
        x.cell(0, 4);
        thawIs(x, 10, 1, 4, 0, 1);
        thawIs(x, 9, 1, 4, 1, 1);
    }

    private static void winters() {
        IceVote x = Due.told("lake 20;cell 3 3;cell 4 4;cell 5 5;voter 4 99 0;voter 3 70 3;voter 4 60 4;voter 0 50 5;");
        long before = x.digest();
        Due.due("37: winters(0, 0)", x.winters(0, 0), 0);
        Due.due("37: winters(0, 1)", x.winters(0, 1), 0);
        Due.due("37: winters(0, 5)", x.winters(0, 5), 10);
        Due.due("37: winters(0, 60)", x.winters(0, 60), 110);
        Due.due("37: winters(1, 60)", x.winters(1, 60), 92);
        Due.due("37: winters(12345, 30)", x.winters(12345, 30), 60);
        Due.due("37: winters(999999, 60)", x.winters(999999, 60), 111);
        Due.due("37: winters(7, 1)", x.winters(7, 1), 2);
        Due.due("37: winters(7, 2)", x.winters(7, 2), 5);
        Due.due("37: winters(7, 3)", x.winters(7, 3), 8);
        Due.due("37: nothing is changed", x.digest(), before);
        Due.due("37: seed -1", x.winters(-1, 1), IceVote.BAD);
        Due.due("37: seed 1000000", x.winters(1000000, 1), IceVote.BAD);
        Due.due("37: n -1", x.winters(0, -1), IceVote.BAD);
        Due.due("37: n 61", x.winters(0, 61), IceVote.BAD);
    }
}
