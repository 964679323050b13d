/** Promises 10 to 15: days that go by, cells trodden, stones, what is undone, what there is now. */
public final class DaysTest {
    public static void main(String[] args) {
        dayByKinds();
        dayAtTheEdges();
        dayWeek();
        lastDay();
        tread();
        stone();
        undo();
        whatMayNotBeUndone();
        of();
        about();
        Due.end();
    }

    private static final String KINDS = "cell 1 1;cell 2 2;cell 3 3;cell 4 4;cell 5 5;";

    /** The ice of cells 0 to 5, of kinds 0 to 5, behind one day. */
    private static void behind(int ice, int frost, int sun, int... want) {
        IceVote x = Due.told("lake " + ice + ";" + KINDS + "week " + frost + " " + sun + ";");
        x.day(1);
        for (int c = 0; c < 6; c++) {
            Due.due("10: KIND " + c + " of " + ice + " by " + frost + " " + sun, x.of(c, 1), want[c]);
        }
    }

    private static void dayByKinds() {
        behind(20, 7, 0, 27, 22, 25, 28, 22, 25);
        behind(20, 6, 0, 26, 22, 24, 27, 22, 24);
        behind(20, 1, 0, 21, 19, 20, 22, 19, 20);
        behind(20, 0, 0, 20, 19, 20, 20, 19, 20);
        behind(20, 0, 7, 13, 12, 17, 13, 12, 17);
        behind(20, 0, 9, 11, 10, 16, 11, 10, 16);
        behind(9, 9, 0, 18, 12, 16, 19, 8, 16);
        behind(10, 9, 0, 19, 13, 17, 20, 13, 17);
        behind(20, 3, 4, 19, 16, 19, 20, 16, 19);
        behind(20, 2, 0, 22, 20, 20, 23, 20, 20);
    }

    private static void dayAtTheEdges() {
        // At 99 it grows no more, and then it melts.
        behind(98, 9, 5, 94, 93, 97, 94, 93, 97);
        behind(99, 9, 9, 90, 89, 95, 90, 89, 95);
        behind(3, 0, 9, 0, 0, 0, 0, 0, 0);
        behind(0, 5, 9, 0, 0, 0, 0, 0, 0);
        IceVote x = new IceVote();
        Due.due("10: day(0)", x.day(0), IceVote.BAD);
        Due.due("10: day(61)", x.day(61), IceVote.BAD);
        Due.due("10: day(-1)", x.day(-1), IceVote.BAD);
        Due.due("10: nothing to undo", x.count(5), 0);
        Due.due("10: the DAY", x.count(1), 0);
    }

    private static void dayWeek() {
        IceVote x = Due.told("lake 0;week 1 0 2 0 3 0 4 0 5 0 6 0 7 0;");
        Due.due("10: day(3)", x.day(3), 25 * 6);
        Due.due("10: count(1)", x.count(1), 3);
        Due.due("10: day(4)", x.day(4), 25 * 28);
        Due.due("10: day(2)", x.day(2), 25 * 31);
        Due.due("10: together they may be undone", x.count(5), 3);
        Due.due("10: undo()", x.undo(), 7);
        Due.due("10: ICE", x.count(2), 25 * 28);
    }

    private static void lastDay() {
        IceVote x = Due.told("lake 50;");
        for (int i = 0; i < 16; i++) {
            x.day(60);
        }
        x.day(37);
        Due.due("10: day 997", x.count(1), 997);
        // Day 997 has the weather of day 3, day 998 that of day 4.
        x.weather(3, 1, 0);
        x.weather(4, 2, 0);
        x.weather(5, 9, 0);
        Due.due("10: at 999 none goes by", x.day(60), 25 * 53);
        Due.due("10: day 999", x.count(1), 999);
        Due.due("10: none goes by", x.day(1), 25 * 53);
        Due.due("10: that may be undone", x.count(5), 2);
        Due.due("10: undo of none", x.undo(), 999);
        Due.due("10: undo of two", x.undo(), 997);
        Due.due("10: ICE of all", x.count(2), 25 * 50);
    }

    private static void tread() {
        IceVote x = Due.told("lake 20;cell 4 1;cell 5 2;");
        Due.due("11: tread(0, 40)", x.tread(0, 40), 1);
        Due.due("11: ICE is 1 less", x.of(0, 1), 19);
        Due.due("11: tread(0, 39)", x.tread(0, 39), 0);
        Due.due("11: ICE is 0", x.of(0, 1), 0);
        Due.due("11: tread(0, 1)", x.tread(0, 1), 0);
        Due.due("11: a mouth bears 35", x.tread(1, 36), 0);
        Due.due("11: a drift bears 20", x.tread(2, 20), 1);
        Due.due("11: a drift bears 19", x.tread(2, 20), 0);
        Due.due("11: may be undone", x.count(5), 6);
        x.lake(1);
        Due.due("11: ICE of 1", x.tread(3, 2), 1);
        Due.due("11: ICE of 1 is none", x.of(3, 1), 0);
        x.lake(20);
        Due.due("11: tread(25, 1)", x.tread(25, 1), IceVote.BAD);
        Due.due("11: tread(-1, 1)", x.tread(-1, 1), IceVote.BAD);
        Due.due("11: tread(0, 0)", x.tread(0, 0), IceVote.BAD);
        Due.due("11: tread(0, 100)", x.tread(0, 100), IceVote.BAD);
        Due.due("11: tread(4, 99)", x.tread(4, 99), 0);
        Due.due("11: undo", x.undo(), 0);
        Due.due("11: ICE again", x.of(4, 1), 20);
    }

    private static void stone() {
        IceVote x = Due.told("lake 99;");
        Due.due("12: stone(24)", x.stone(24), 49);
        Due.due("12: stone(24) again", x.stone(24), 24);
        Due.due("12: of(24, 1)", x.of(24, 1), 24);
        Due.due("12: of(23, 1)", x.of(23, 1), 99);
        Due.due("12: stone(25)", x.stone(25), IceVote.BAD);
        Due.due("12: stone(-1)", x.stone(-1), IceVote.BAD);
        Due.due("12: may be undone", x.count(5), 2);
        x.lake(1);
        Due.due("12: stone(0)", x.stone(0), 0);
        Due.due("12: stone(0) on none", x.stone(0), 0);
        Due.due("12: both may be undone", x.count(5), 2);
    }

    private static void undo() {
        IceVote x = Due.told("lake 50;week 2 0;");
        Due.due("13: none", x.undo(), IceVote.NO);
        x.day(2);
        x.stone(3);
        x.tread(4, 99);
        x.note(1, 1, 1, 1, 1);
        Due.due("13: the tread", x.undo(), 2);
        Due.due("13: ICE of 4", x.of(4, 1), 52);
        Due.due("13: ICE of 3", x.of(3, 1), 26);
        Due.due("13: the stone", x.undo(), 2);
        Due.due("13: ICE of 3 again", x.of(3, 1), 52);
        Due.due("13: the days", x.undo(), 0);
        Due.due("13: ICE of all", x.count(2), 1250);
        Due.due("13: the DAY", x.count(1), 0);
        Due.due("13: none is left", x.undo(), IceVote.NO);
        Due.due("13: NOTES stay", x.count(3), 1);
        Due.due("13: STATUS NO", x.status(1), 2);
        int[] ice = new int[21];
        for (int i = 1; i <= 10; i++) {
            ice[2 * i - 1] = x.count(2);
            x.stone(i);
            ice[2 * i] = x.count(2);
            x.day(1);
        }
        Due.due("13: 8 at most", x.count(5), 8);
        for (int i = 10; i > 6; i--) {
            Due.due("13: day " + i, x.undo(), i - 1);
            Due.due("13: ICE ahead of day " + i, x.count(2), ice[2 * i]);
            Due.due("13: stone " + i, x.undo(), i - 1);
            Due.due("13: ICE ahead of stone " + i, x.count(2), ice[2 * i - 1]);
        }
        Due.due("13: the older ones are gone", x.undo(), IceVote.NO);
    }

    private static void whatMayNotBeUndone() {
        IceVote x = new IceVote();
        x.day(1);
        x.voter(9, 9, 9);
        x.cell(0, 9);
        x.weather(9, 0, 0);
        x.ward(9, 0);
        x.read();
        x.note(0, 0, 0, 0, 0);
        x.forget(0);
        Due.due("13: refused ones change nothing", x.count(5), 1);
        x.voter(0, 1, 0);
        Due.due("13: behind a VOTER", x.undo(), IceVote.NO);
        x.day(1);
        x.cell(0, 0);
        Due.due("13: behind a KIND", x.undo(), IceVote.NO);
        x.day(1);
        x.weather(0, 0, 0);
        Due.due("13: behind WEATHER", x.undo(), IceVote.NO);
        x.day(1);
        x.ward(0, 0);
        Due.due("13: behind a word", x.undo(), IceVote.NO);
        x.day(1);
        x.lake(0);
        Due.due("13: behind a lake", x.undo(), IceVote.NO);
    }

    private static void of() {
        IceVote x = Due.told("lake 7;" + KINDS);
        int[] bears = {14, 14, 14, 14, 9, 7};
        for (int c = 0; c < 6; c++) {
            Due.due("14: of(" + c + ", 0)", x.of(c, 0), c);
            Due.due("14: of(" + c + ", 1)", x.of(c, 1), 7);
            Due.due("14: of(" + c + ", 2)", x.of(c, 2), bears[c]);
        }
        Due.due("14: of(25, 0)", x.of(25, 0), IceVote.BAD);
        Due.due("14: of(-1, 0)", x.of(-1, 0), IceVote.BAD);
        Due.due("14: of(0, 3)", x.of(0, 3), IceVote.BAD);
        Due.due("14: of(0, -1)", x.of(0, -1), IceVote.BAD);
        x.lake(2);
        x.cell(0, 4);
        Due.due("14: a mouth's 2", x.of(0, 2), 0);
        x.lake(3);
        x.cell(0, 4);
        Due.due("14: a mouth's 3", x.of(0, 2), 1);
    }

    /** Whether one of each kind votes yes. */
    private static void vote(String about, IceVote x, int... want) {
        for (int v = 0; v < 6; v++) {
            Due.due("15: KIND " + v + ", " + about, x.about(v, 3), want[v]);
        }
    }

    private static IceVote six(int ice, int weight, int frost) {
        StringBuilder text = new StringBuilder("lake " + ice + ";week " + frost + " 0;");
        for (int kind = 0; kind < 6; kind++) {
            text.append("voter ").append(kind).append(' ').append(weight).append(" 12;");
        }
        return Due.told(text.toString());
    }

    private static void about() {
        IceVote x = six(20, 40, 0);
        vote("40 of 40", x, 1, 1, 0, 1, 1, 1);
        x.stone(7);
        vote("40 of 40, less beside", x, 1, 1, 0, 1, 1, 0);
        vote("38 of 38", six(19, 38, 0), 1, 0, 0, 1, 1, 0);
        vote("38 of 39", six(19, 39, 0), 0, 0, 0, 0, 0, 0);
        vote("38 of 39 by 1", six(19, 39, 1), 0, 0, 0, 0, 1, 0);
        vote("38 of 39 by 5", six(19, 39, 5), 0, 0, 0, 0, 1, 0);
        vote("38 of 39 by 6", six(19, 39, 6), 0, 0, 0, 1, 1, 0);
        x = six(19, 99, 6);
        vote("by frost of day 0", x, 0, 0, 0, 1, 1, 0);
        x.day(1);
        vote("by frost of day 1", x, 0, 0, 0, 0, 0, 0);
        x = Due.told("lake 30;voter 5 50 0;voter 5 50 24;voter 5 50 14;voter 5 50 10;voter 5 50 12;");
        int[] beside = {1, 23, 9, 15, 7};
        for (int v = 0; v < 5; v++) {
            Due.due("15: an ear", x.about(v, 3), 1);
            x.tread(beside[v], 99);
            Due.due("15: an ear by " + beside[v], x.about(v, 3), 0);
        }
        x = Due.told("lake 30;voter 5 50 5;voter 5 50 6;voter 5 50 8;voter 5 50 18;voter 5 50 19;");
        int[] sides = {0, 11, 9, 17, 24};
        for (int v = 0; v < 5; v++) {
            Due.due("15: an ear in a middle", x.about(v, 3), 1);
            x.tread(sides[v], 99);
            Due.due("15: an ear by " + sides[v], x.about(v, 3), 0);
        }
        x = Due.told("lake 30;voter 5 50 6;");
        x.tread(5, 99);
        Due.due("15: an ear by 5", x.about(0, 3), 0);
        x = Due.told("lake 30;voter 5 50 14;voter 5 50 10;");
        x.tread(15, 99);
        Due.due("15: 15 is not beside 14", x.about(0, 3), 1);
        x.undo();
        x.tread(9, 99);
        Due.due("15: 9 is not beside 10", x.about(1, 3), 1);
        Due.due("15: about(1, 0)", x.about(1, 0), 5);
        Due.due("15: about(1, 1)", x.about(1, 1), 50);
        Due.due("15: about(1, 2)", x.about(1, 2), 10);
        Due.due("15: about(2, 0)", x.about(2, 0), IceVote.BAD);
        Due.due("15: about(-1, 0)", x.about(-1, 0), IceVote.BAD);
        Due.due("15: about(0, 4)", x.about(0, 4), IceVote.BAD);
        Due.due("15: about(0, -1)", x.about(0, -1), IceVote.BAD);
    }
}
