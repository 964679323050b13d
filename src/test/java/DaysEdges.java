/** Promises 10 to 15 where they begin and end: days that go round or no more, what may be undone. */
final class DaysEdges {
    private DaysEdges() {
    }

    static void all() {
        daysGoBy();
        dayIsOneMore();
        iceTogether();
        weekGoesRound();
        frostGoesRound();
        togetherOne();
        noneGoesBy();
        alsoIfNoneGoesBy();
        lastDay();
        trodden();
        troddenByWeight();
        broken();
        stoned();
        dayThen();
        eightAtMost();
        eachMayBeUndone();
        noneBehindTold();
        stillBehindRefused();
        stillBehindOthers();
        ofWhat();
        aboutWhat();
    }

    private static void daysGoBy() {
        Edge.of(10, "n DAYS go by (1 .. 60");
        IceVote x = Due.told("lake 0;week 1 0;");
        Edge.due("day(1)", x.day(1), 25);
        Edge.due("count(1)", x.count(1), 1);
        Edge.due("day(60)", x.day(60), 25 * 9);
        Edge.due("count(1)", x.count(1), 61);
        x.day(2);
        Edge.due("day(59)", x.day(59), 25 * 18);
        Edge.due("count(1)", x.count(1), 122);
    }

    private static void dayIsOneMore() {
        Edge.of(10, "the DAY is one more");
        IceVote x = new IceVote();
        for (int day = 1; day <= 20; day++) {
            x.day(1);
            Edge.due("count(1)", x.count(1), day);
        }
        x.day(60);
        Edge.due("count(1) behind day(60)", x.count(1), 80);
    }

    private static void iceTogether() {
        Edge.of(10, "ICE of all CELLS together");
        Edge.due("day(1) of none", new IceVote().day(1), 0);
        Edge.due("day(60) of all", Lakes.of(99).day(60), 2475);
        IceVote x = new IceVote();
        x.cell(24, 3);
        x.weather(0, 1, 0);
        Edge.due("day(1) with a bay", x.day(1), 26);
    }

    private static void weekGoesRound() {
        Edge.of(10, "(DAY d has that of d by 7 left over)");
        for (int d = 0; d < 7; d++) {
            IceVote x = new IceVote();
            x.weather(d, 1, 0);
            int ice = 0;
            for (int day = 0; day < 22; day++) {
                ice += day % 7 == d ? 25 : 0;
                Edge.due("WEATHER of " + d + " told, day(1) on DAY " + day, x.day(1), ice);
            }
        }
    }

    private static void frostGoesRound() {
        Edge.of(15, "by the FROST f of the DAY");
        IceVote x = Due.told("lake 0;week 0 0 0 0 6 9;voter 3 99 0;");
        for (int day = 0; day < 24; day++) {
            Edge.due("about(0, 3) on DAY " + day, x.about(0, 3), day % 7 == 2 ? 1 : 0);
            x.day(1);
        }
        x = Lakes.onDay(999, 0);
        x.voter(3, 99, 0);
        // 999 is 5 more than 142 weeks.
        for (int d = 0; d < 7; d++) {
            x.weather(d, 6, 0);
            Edge.due("about(0, 3) on DAY 999 by FROST of " + d, x.about(0, 3), d == 5 ? 1 : 0);
            x.weather(d, 0, 0);
        }
    }

    private static void togetherOne() {
        Edge.of(10, "together one that may be undone");
        IceVote x = Due.told("lake 0;week 1 0;");
        x.day(60);
        Edge.due("count(5) behind day(60)", x.count(5), 1);
        x.day(1);
        Edge.due("count(5) behind day(1)", x.count(5), 2);
        Edge.due("undo()", x.undo(), 60);
        Edge.due("undo()", x.undo(), 0);
        Edge.due("count(2)", x.count(2), 0);
    }

    private static void noneGoesBy() {
        Edge.of(10, "at 999 none goes by");
        IceVote x = Lakes.onDay(999, 50);
        for (int d = 0; d < 7; d++) {
            x.weather(d, 9, 0);
        }
        Edge.due("day(1)", x.day(1), 1250);
        Edge.due("day(60)", x.day(60), 1250);
        Edge.due("count(1)", x.count(1), 999);
    }

    private static void alsoIfNoneGoesBy() {
        Edge.of(10, "also if none goes by");
        IceVote x = Lakes.onDay(999, 50);
        x.ward(0, 0);
        x.day(1);
        Edge.due("count(5) behind day(1)", x.count(5), 1);
        x.day(60);
        Edge.due("count(5) behind day(60)", x.count(5), 2);
        Edge.due("undo()", x.undo(), 999);
        Edge.due("undo()", x.undo(), 999);
        Edge.due("undo() of none", x.undo(), IceVote.NO);
    }

    private static void lastDay() {
        Edge.of(10, "(999 at most)");
        IceVote x = Lakes.onDay(997, 50);
        // DAY 997 has the weather of 3, 998 that of 4, and 999 would have that of 5.
        x.weather(3, 1, 0);
        x.weather(4, 2, 0);
        x.weather(5, 9, 0);
        Edge.due("day(1) on 997", x.day(1), 25 * 51);
        Edge.due("count(1)", x.count(1), 998);
        Edge.due("day(60) on 998", x.day(60), 25 * 53);
        Edge.due("count(1)", x.count(1), 999);
        Edge.due("undo()", x.undo(), 998);
        Edge.due("day(1) on 998", x.day(1), 25 * 53);
        Edge.due("count(1)", x.count(1), 999);
    }

    private static void trodden() {
        Edge.of(11, "1, if it BEARS it (ICE is 1 less, 0 at least)");
        IceVote x = Lakes.of(20);
        Edge.due("tread(0, 40) on 40", x.tread(0, 40), 1);
        Edge.due("of(0, 1)", x.of(0, 1), 19);
        Edge.due("count(2)", x.count(2), 499);
        x = Lakes.of(1);
        Edge.due("tread(24, 1) on 2", x.tread(24, 1), 1);
        Edge.due("of(24, 1)", x.of(24, 1), 0);
        x = Lakes.of(50);
        Edge.due("tread(24, 99) on 100", x.tread(24, 99), 1);
        x.lake(3);
        x.cell(0, 4);
        Edge.due("tread(0, 1) on a mouth's 1", x.tread(0, 1), 1);
        Edge.due("of(0, 1)", x.of(0, 1), 2);
    }

    private static void troddenByWeight() {
        Edge.of(11, "A CELL is trodden by WEIGHT w (1 .. 99)");
        int[] ends = {0, 24};
        for (int c : ends) {
            IceVote x = Lakes.of(99);
            Edge.due("tread(" + c + ", 1)", x.tread(c, 1), 1);
            Edge.due("tread(" + c + ", 99)", x.tread(c, 99), 1);
            Edge.due("count(2)", x.count(2), 2473);
            x = new IceVote();
            Edge.due("tread(" + c + ", 1) on none", x.tread(c, 1), 0);
            Edge.due("tread(" + c + ", 99) on none", x.tread(c, 99), 0);
        }
    }

    private static void broken() {
        Edge.of(11, "else 0 (ICE is 0)");
        IceVote x = Lakes.of(20);
        Edge.due("tread(0, 41) on 40", x.tread(0, 41), 0);
        Edge.due("of(0, 1)", x.of(0, 1), 0);
        Edge.due("count(2)", x.count(2), 480);
        Edge.due("tread(0, 1) on 0", x.tread(0, 1), 0);
        Edge.due("of(0, 1)", x.of(0, 1), 0);
        x.cell(24, 4);
        x.lake(2);
        x.cell(24, 4);
        Edge.due("tread(24, 1) on a mouth's 0", x.tread(24, 1), 0);
        Edge.due("of(24, 1)", x.of(24, 1), 0);
        Edge.due("count(2)", x.count(2), 48);
    }

    private static void stoned() {
        Edge.of(12, "ICE of the CELL is half (cut): ICE");
        int[] ices = {49, 24, 12, 6, 3, 1, 0, 0};
        int[] ends = {0, 24};
        IceVote x = Lakes.of(99);
        for (int c : ends) {
            for (int ice : ices) {
                Edge.due("stone(" + c + ")", x.stone(c), ice);
                Edge.due("of(" + c + ", 1)", x.of(c, 1), ice);
            }
        }
        Edge.due("count(2)", x.count(2), 23 * 99);
    }

    private static void dayThen() {
        Edge.of(13, "UNDO: the DAY then");
        IceVote x = Lakes.of(9);
        x.stone(0);
        Edge.due("undo() on DAY 0", x.undo(), 0);
        x.day(60);
        x.stone(0);
        Edge.due("undo() of a stone", x.undo(), 60);
        Edge.due("undo() of 60 DAYS", x.undo(), 0);
        x = Lakes.onDay(999, 9);
        Edge.due("undo() of the last 39", x.undo(), 960);
    }

    private static void eightAtMost() {
        Edge.of(13, "stone (8 at most");
        for (int done = 0; done <= 17; done++) {
            IceVote x = new IceVote();
            x.weather(0, 1, 0);
            for (int i = 0; i < done; i++) {
                x.day(7);
            }
            int may = Math.min(8, done);
            Edge.due("count(5) behind " + done, x.count(5), may);
            for (int i = 1; i <= may; i++) {
                Edge.due("undo() " + i + " of " + done, x.undo(), 7 * (done - i));
                Edge.due("count(2) then", x.count(2), 25 * (done - i));
                Edge.due("count(5) then", x.count(5), may - i);
            }
            Edge.due("undo() of none, " + done, x.undo(), IceVote.NO);
        }
    }

    private static void eachMayBeUndone() {
        Edge.of(13, "ICE, the DAY as ahead of the last DAYS gone by, CELL trodden, stone");
        IceVote x = Due.told("lake 20;cell 4 1;week 3 1;");
        long before = x.digest();
        x.day(1);
        x.undo();
        Edge.due("digest() behind days undone", x.digest(), before);
        x.tread(1, 35);
        x.undo();
        Edge.due("digest() behind a sledge's path undone", x.digest(), before);
        x.tread(1, 36);
        x.undo();
        Edge.due("digest() behind a fall undone", x.digest(), before);
        x.stone(1);
        x.undo();
        Edge.due("digest() behind a stone undone", x.digest(), before);
        Edge.due("undo() is not undone", x.undo(), IceVote.NO);
        x = new IceVote();
        x.tread(0, 1);
        x.stone(0);
        Edge.due("count(5) by what changes no ICE", x.count(5), 2);
    }

    /** What may be undone behind a call of these numbers, if it was one ahead of it. */
    private static void may(int want, Calls call, int... numbers) {
        IceVote x = Lakes.some();
        x.from(1);
        int some = x.count(5);
        call.on(x, numbers);
        Edge.due("count(5) behind " + call.told(numbers), x.count(5), want < 0 ? some : want);
        Edge.due("undo()", x.undo() == IceVote.NO ? 1 : 0, want == 0 ? 1 : 0);
    }

    private static void noneBehindTold() {
        Edge.of(13, "behind a VOTER that comes, a KIND, WEATHER, word told none may be");
        may(0, Calls.VOTER, 0, 1, 0);
        may(0, Calls.CELL, 0, 0);
        may(0, Calls.CELL, 1, 5);
        may(0, Calls.WEATHER, 0, 3, 1);
        may(0, Calls.WEATHER, 6, 0, 1);
        may(0, Calls.WARD, 0, 20);
        may(0, Calls.WARD, 3, 0);
        may(0, Calls.LAKE, 20);
        may(0, Calls.READ);
    }

    private static void stillBehindRefused() {
        Edge.of(13, "Refused, changing nothing but STATUS");
        may(-1, Calls.VOTER, 6, 1, 0);
        may(-1, Calls.CELL, 0, 6);
        may(-1, Calls.WEATHER, 0, 10, 0);
        may(-1, Calls.WARD, 0, 100);
        may(-1, Calls.LAKE, 100);
        may(-1, Calls.DAY, 61);
        may(-1, Calls.TREAD, 0, 100);
        may(-1, Calls.STONE, 25);
        IceVote x = Lakes.full();
        x.voter(0, 1, 0);
        Edge.due("count(5) behind an 8th voter", x.count(5), 8);
    }

    private static void stillBehindOthers() {
        Edge.of(13, "behind a VOTER that comes, a KIND, WEATHER, word told none may be");
        may(-1, Calls.NOTE, 0, 0, 0, 0, 0);
        may(-1, Calls.VOTED, 0, 0, 0, 0, 0);
        may(-1, Calls.FORGET, 0);
        may(-1, Calls.TYPE, 32);
        may(-1, Calls.CLEAR);
        may(-1, Calls.IMAGE, 0);
        may(-1, Calls.THAW, 0, 1, 1, 1);
        IceVote x = Lakes.full();
        x.clear();
        x.read();
        Edge.due("count(5) behind a FAULT", x.count(5), 8);
    }

    private static void ofWhat() {
        Edge.of(14, "KIND (0), ICE (1), what it BEARS (2)");
        IceVote x = Due.told("lake 99;cell 5 24;");
        int[] first = {0, 99, 198};
        int[] last = {5, 99, 99};
        for (int what = 0; what <= 2; what++) {
            Edge.due("of(0, " + what + ")", x.of(0, what), first[what]);
            Edge.due("of(24, " + what + ")", x.of(24, what), last[what]);
        }
    }

    private static void aboutWhat() {
        Edge.of(15, "KIND (0), WEIGHT (1), CELL (2), votes YES (3; 1, 0)");
        IceVote x = Due.told("lake 20;voter 0 40 0;");
        for (int v = 1; v < 6; v++) {
            x.voter(2, 1, 0);
        }
        x.voter(5, 99, 24);
        int[] first = {0, 40, 0, 1};
        int[] last = {5, 99, 24, 0};
        for (int what = 0; what <= 3; what++) {
            Edge.due("about(0, " + what + ")", x.about(0, what), first[what]);
            Edge.due("about(6, " + what + ")", x.about(6, what), last[what]);
        }
    }
}
