/** Promises 16 to 23: what the ice bears, when, where, and by which path. */
public final class BearsTest {
    public static void main(String[] args) {
        then();
        thenBeyondTheLastDay();
        when();
        where();
        horses();
        path();
        pathRoundAbout();
        safe();
        cross();
        apart();
        Due.end();
    }

    /** Breaks these cells: none of them bears anything then. */
    private static void breakCells(IceVote x, int... cells) {
        for (int c : cells) {
            x.tread(c, 99);
        }
    }

    private static void then() {
        IceVote x = Due.told("lake 20;cell 4 1;cell 5 2;week 3 1 0 4;");
        long before = x.digest();
        Due.due("16: then(0, 0, 0)", x.then(0, 0, 0), 20);
        Due.due("16: then(0, 1, 0)", x.then(0, 1, 0), 22);
        Due.due("16: then(0, 2, 0)", x.then(0, 2, 0), 18);
        Due.due("16: then(0, 7, 0)", x.then(0, 7, 0), 18);
        Due.due("16: then(0, 8, 0)", x.then(0, 8, 0), 20);
        Due.due("16: then(0, 60, 0)", x.then(0, 60, 0), 2);
        Due.due("16: then(0, 60, 1)", x.then(0, 60, 1), 4);
        Due.due("16: a mouth's ICE", x.then(1, 3, 0), 13);
        Due.due("16: a mouth bears", x.then(1, 1, 1), 33);
        Due.due("16: a drift's ICE", x.then(2, 2, 0), 19);
        Due.due("16: a drift bears", x.then(2, 2, 1), 19);
        Due.due("16: nothing is changed", x.digest(), before);
        x.day(1);
        Due.due("16: from day 1", x.then(0, 1, 0), 18);
        Due.due("16: then(25, 0, 0)", x.then(25, 0, 0), IceVote.BAD);
        Due.due("16: then(-1, 0, 0)", x.then(-1, 0, 0), IceVote.BAD);
        Due.due("16: then(0, 61, 0)", x.then(0, 61, 0), IceVote.BAD);
        Due.due("16: then(0, -1, 0)", x.then(0, -1, 0), IceVote.BAD);
        Due.due("16: then(0, 0, 2)", x.then(0, 0, 2), IceVote.BAD);
        Due.due("16: then(0, 0, -1)", x.then(0, 0, -1), IceVote.BAD);
    }

    private static void thenBeyondTheLastDay() {
        IceVote x = new IceVote();
        for (int i = 0; i < 17; i++) {
            x.day(60);
        }
        // Day 999 has the weather of day 5.
        x.weather(5, 1, 0);
        x.weather(6, 5, 0);
        Due.due("16: behind 999", x.then(0, 1, 0), 1);
        Due.due("16: behind 1000", x.then(0, 2, 0), 6);
        Due.due("16: behind 1006", x.then(0, 8, 0), 7);
        Due.due("17: behind 1000", x.when(0, 12), 2);
        Due.due("18: behind 1000", x.where(12, 2), (1 << 25) - 1);
        Due.due("18: behind 999", x.where(12, 1), 0);
        Due.due("19: behind 1000", x.horses(12), 2);
        Due.due("36: thaw", x.thaw(0, 12, 2, 4), 1);
        Due.due("36: behind 1000", x.part(0) * 100 + x.part(1), 9 * 100 + 25);
    }

    private static void when() {
        IceVote x = Due.told("lake 0;week 2 0;");
        Due.due("17: when(0, 1)", x.when(0, 1), 1);
        Due.due("17: when(0, 4)", x.when(0, 4), 1);
        Due.due("17: when(0, 5)", x.when(0, 5), 8);
        Due.due("17: when(0, 36)", x.when(0, 36), 57);
        Due.due("17: when(0, 37)", x.when(0, 37), IceVote.NONE);
        x.day(4);
        Due.due("17: when(0, 4) now", x.when(0, 4), 0);
        Due.due("17: when(0, 40)", x.when(0, 40), 60);
        Due.due("17: when(0, 41)", x.when(0, 41), IceVote.NONE);
        Due.due("17: the DAY", x.count(1), 4);
        Due.due("17: when(25, 1)", x.when(25, 1), IceVote.BAD);
        Due.due("17: when(-1, 1)", x.when(-1, 1), IceVote.BAD);
        Due.due("17: when(0, 0)", x.when(0, 0), IceVote.BAD);
        Due.due("17: when(0, 199)", x.when(0, 199), IceVote.BAD);
        x.lake(10);
        x.cell(3, 4);
        Due.due("17: a mouth now", x.when(3, 15), 0);
        Due.due("17: a mouth never", x.when(3, 16), IceVote.NONE);
        x.lake(99);
        Due.due("17: when(24, 198)", x.when(24, 198), 0);
    }

    private static void where() {
        int all = (1 << 25) - 1;
        IceVote x = Due.told("lake 20;cell 4 1;cell 5 24;week 5 0 0 9;");
        Due.due("18: where(40, 0)", x.where(40, 0), all & ~Due.bits(1, 24));
        Due.due("18: where(35, 0)", x.where(35, 0), all & ~Due.bits(24));
        Due.due("18: where(20, 0)", x.where(20, 0), all);
        Due.due("18: where(41, 0)", x.where(41, 0), 0);
        Due.due("18: where(41, 1)", x.where(41, 1), all & ~Due.bits(1, 24));
        Due.due("18: where(23, 1)", x.where(23, 1), all);
        Due.due("18: where(24, 1)", x.where(24, 1), all & ~Due.bits(24));
        Due.due("18: where(33, 2)", x.where(33, 2), 0);
        Due.due("18: where(32, 2)", x.where(32, 2), all & ~Due.bits(1, 24));
        Due.due("18: where(19, 2)", x.where(19, 2), all & ~Due.bits(1));
        Due.due("18: where(1, 60)", x.where(1, 60), Due.bits(24));
        Due.due("18: ICE stays", x.count(2), 500);
        Due.due("18: where(0, 0)", x.where(0, 0), IceVote.BAD);
        Due.due("18: where(199, 0)", x.where(199, 0), IceVote.BAD);
        Due.due("18: where(1, 61)", x.where(1, 61), IceVote.BAD);
        Due.due("18: where(1, -1)", x.where(1, -1), IceVote.BAD);
    }

    private static void horses() {
        IceVote x = Due.told("lake 20;cell 4 7;week 1 0;");
        Due.due("19: horses(39)", x.horses(39), 0);
        Due.due("19: horses(40)", x.horses(40), 1);
        Due.due("19: ICE stays", x.count(2), 500);
        x.lake(0);
        x.weather(0, 2, 0);
        x.day(4);
        Due.due("19: horses(4)", x.horses(4), 0);
        Due.due("19: horses(40) in 60", x.horses(40), 60);
        Due.due("19: horses(41)", x.horses(41), IceVote.NONE);
        Due.due("19: horses(0)", x.horses(0), IceVote.BAD);
        Due.due("19: horses(199)", x.horses(199), IceVote.BAD);
        x = Due.told("lake 20;week 9 1 0 5;");
        Due.due("19: by frost and sun", x.horses(56), 1);
        x.day(1);
        Due.due("19: by the next week's frost", x.horses(62), 7);
        Due.due("19: by the week's frost behind it", x.horses(63), 14);
        x = Due.told("lake 20;cell 5 0 1 2 3 4 5 6 7 8 9 10 11 12 13 14 15 16 17 18 19 20 21 22 23 24;week 0 0 3 5;");
        Due.due("19: all bear 500", x.horses(20), 0);
        x.tread(0, 1);
        Due.due("19: all bear 499", x.horses(20), IceVote.NONE);
        Due.due("19: 19 of 499", x.horses(19), 0);
        x.lake(99);
        Due.due("19: horses(198)", x.horses(198), 0);
        x.tread(0, 99);
        Due.due("19: horses(198) behind one trodden", x.horses(198), IceVote.NONE);
    }

    private static void pathIs(IceVote x, int w, int a, int b, int... cells) {
        String about = "20: path " + w + " from " + a + " to " + b;
        Due.due(about, x.path(w, a, b, -1), cells.length);
        for (int i = 0; i < cells.length; i++) {
            Due.due(about + " at " + i, x.path(w, a, b, i), cells[i]);
        }
        Due.due(about + " behind it", x.path(w, a, b, cells.length), -5);
        Due.due(about + " far behind it", x.path(w, a, b, Integer.MAX_VALUE), -5);
    }

    private static void path() {
        IceVote x = Due.told("lake 30;");
        long before = x.digest();
        pathIs(x, 60, 0, 0, 0);
        pathIs(x, 60, 0, 6, 0, 1, 6);
        pathIs(x, 60, 6, 0, 6, 1, 0);
        pathIs(x, 1, 24, 0, 24, 19, 14, 9, 4, 3, 2, 1, 0);
        pathIs(x, 1, 4, 20, 4, 3, 2, 1, 0, 5, 10, 15, 20);
        pathIs(x, 1, 9, 10, 9, 8, 7, 6, 5, 10);
        Due.due("20: too heavy", x.path(61, 0, 6, -1), IceVote.NONE);
        Due.due("20: too heavy, the 99th", x.path(61, 0, 6, 99), IceVote.NONE);
        Due.due("20: too heavy, where it is", x.path(61, 3, 3, 0), IceVote.NONE);
        Due.due("20: nothing is changed", x.digest(), before);
        Due.due("20: none of these is refused", x.status(0), 0);
        Due.due("20: w 0", x.path(0, 0, 0, 0), -10);
        Due.due("20: w 199", x.path(199, 0, 0, 0), -10);
        Due.due("20: a -1", x.path(1, -1, 0, 0), -10);
        Due.due("20: a 25", x.path(1, 25, 0, 0), -10);
        Due.due("20: b -1", x.path(1, 0, -1, 0), -10);
        Due.due("20: b 25", x.path(1, 0, 25, 0), -10);
        Due.due("20: i -2", x.path(1, 0, 0, -2), -10);
        Due.due("20: -10 counts as BAD", x.status(0), 7);
    }

    private static void pathRoundAbout() {
        IceVote x = Due.told("lake 30;cell 4 13;");
        breakCells(x, 2);
        pathIs(x, 40, 0, 4, 0, 1, 6, 7, 8, 3, 4);
        Due.due("20: from a broken one", x.path(1, 2, 0, -1), IceVote.NONE);
        Due.due("20: to a broken one", x.path(1, 0, 2, -1), IceVote.NONE);
        Due.due("20: at a broken one", x.path(1, 2, 2, -1), IceVote.NONE);
        pathIs(x, 55, 12, 14, 12, 13, 14);
        pathIs(x, 56, 12, 14, 12, 7, 8, 9, 14);
        x.lake(30);
        breakCells(x, 1, 6, 11, 16, 8, 13, 18, 23);
        pathIs(x, 1, 0, 2, 0, 5, 10, 15, 20, 21, 22, 17, 12, 7, 2);
        pathIs(x, 1, 0, 24, 0, 5, 10, 15, 20, 21, 22, 17, 12, 7, 2, 3, 4, 9, 14, 19, 24);
        breakCells(x, 9);
        Due.due("20: no path", x.path(1, 0, 24, -1), IceVote.NONE);
    }

    private static void safe() {
        IceVote x = Due.told("lake 30;cell 4 2 7 12 17 22;");
        Due.due("21: safe(0, 4)", x.safe(0, 4), 55);
        Due.due("21: safe(4, 0)", x.safe(4, 0), 55);
        Due.due("21: safe(0, 1)", x.safe(0, 1), 60);
        Due.due("21: safe(12, 12)", x.safe(12, 12), 55);
        x.cell(22, 0);
        Due.due("21: safe(0, 4) by 22", x.safe(0, 4), 60);
        breakCells(x, 22);
        Due.due("21: safe(0, 4) again", x.safe(0, 4), 55);
        Due.due("21: safe(0, 22)", x.safe(0, 22), 0);
        Due.due("21: safe(22, 22)", x.safe(22, 22), 0);
        breakCells(x, 2, 7, 12, 17);
        Due.due("21: none to the other side", x.safe(0, 4), 0);
        x.lake(99);
        Due.due("21: the most", x.safe(0, 24), 198);
        x.tread(24, 99);
        Due.due("21: the most but one sledge", x.safe(0, 24), 196);
        Due.due("21: safe(-1, 0)", x.safe(-1, 0), IceVote.BAD);
        Due.due("21: safe(25, 0)", x.safe(25, 0), IceVote.BAD);
        Due.due("21: safe(0, -1)", x.safe(0, -1), IceVote.BAD);
        Due.due("21: safe(0, 25)", x.safe(0, 25), IceVote.BAD);
    }

    private static void cross() {
        IceVote x = Due.told("lake 30;");
        Due.due("22: cross(60, 0, 1)", x.cross(60, 0, 1), 1);
        Due.due("22: cross(61, 0, 1)", x.cross(61, 0, 1), 0);
        Due.due("22: cross(58, 0, 1)", x.cross(58, 0, 1), 2);
        Due.due("22: cross(1, 24, 0)", x.cross(1, 24, 0), 30);
        Due.due("22: ICE stays", x.count(2), 750);
        x.stone(1);
        x.stone(1);
        x.stone(5);
        // Cell 1 of 7 bears three, then it goes by cell 5 of 15, which bears eleven.
        Due.due("22: by two paths", x.cross(10, 0, 6), 14);
        x.lake(30);
        x.cell(0, 5);
        Due.due("22: from a drift", x.cross(20, 0, 2), 11);
        x.lake(39);
        Due.due("22: 39", x.cross(1, 0, 24), 39);
        x.lake(50);
        Due.due("22: 40 at most", x.cross(1, 0, 24), 40);
        x.lake(99);
        Due.due("22: cross(99, 20, 2)", x.cross(99, 20, 2), 40);
        Due.due("22: cross(0, 0, 1)", x.cross(0, 0, 1), IceVote.BAD);
        Due.due("22: cross(100, 0, 1)", x.cross(100, 0, 1), IceVote.BAD);
        Due.due("22: cross(1, -1, 1)", x.cross(1, -1, 1), IceVote.BAD);
        Due.due("22: cross(1, 25, 1)", x.cross(1, 25, 1), IceVote.BAD);
        Due.due("22: cross(1, 0, 25)", x.cross(1, 0, 25), IceVote.BAD);
        Due.due("22: cross(1, 0, -1)", x.cross(1, 0, -1), IceVote.BAD);
        Due.due("22: cross(1, 7, 7)", x.cross(1, 7, 7), IceVote.BAD);
    }

    private static void partIs(IceVote x, int w, int a, int b, int cells, int which) {
        String about = "23: apart " + w + " from " + a + " to " + b;
        Due.due(about + ", how many", x.apart(w, a, b, 0), cells);
        Due.due(about + ", which", x.apart(w, a, b, 1), which);
    }

    private static void apart() {
        IceVote x = Due.told("lake 30;");
        partIs(x, 60, 0, 24, 2, 32 * 1 + 5);
        partIs(x, 60, 24, 12, 2, 32 * 19 + 23);
        partIs(x, 60, 6, 18, IceVote.NONE, IceVote.NONE);
        partIs(x, 60, 6, 7, IceVote.NONE, IceVote.NONE);
        partIs(x, 60, 0, 5, IceVote.NONE, IceVote.NONE);
        partIs(x, 61, 0, 24, 0, 0);
        Due.due("23: ICE stays", x.count(2), 750);
        breakCells(x, 5, 6, 7, 8);
        partIs(x, 60, 0, 24, 1, 32 * 31 + 1);
        partIs(x, 60, 3, 24, 1, 32 * 31 + 4);
        partIs(x, 60, 5, 24, 0, 0);
        partIs(x, 60, 24, 5, 0, 0);
        x.lake(30);
        breakCells(x, 2, 7, 17, 22);
        partIs(x, 1, 0, 4, 1, 32 * 31 + 11);
        partIs(x, 1, 18, 6, 1, 32 * 31 + 11);
        partIs(x, 1, 12, 24, 1, 32 * 31 + 13);
        x.lake(30);
        breakCells(x, 2, 7, 17);
        partIs(x, 1, 16, 18, 2, 32 * 11 + 21);
        x.lake(30);
        breakCells(x, 2);
        partIs(x, 1, 1, 5, 2, 6);
        breakCells(x, 6);
        partIs(x, 1, 1, 5, 1, 32 * 31);
        x.lake(30);
        breakCells(x, 17, 18, 19);
        partIs(x, 1, 5, 21, 2, 32 * 10 + 11);
        x.lake(30);
        x.cell(1, 5);
        partIs(x, 31, 0, 24, 1, 32 * 31 + 5);
        partIs(x, 30, 0, 24, 2, 32 * 1 + 5);
        Due.due("23: w 0", x.apart(0, 0, 1, 0), IceVote.BAD);
        Due.due("23: w 199", x.apart(199, 0, 1, 0), IceVote.BAD);
        Due.due("23: a 25", x.apart(1, 25, 1, 0), IceVote.BAD);
        Due.due("23: a -1", x.apart(1, -1, 1, 0), IceVote.BAD);
        Due.due("23: b 25", x.apart(1, 0, 25, 0), IceVote.BAD);
        Due.due("23: b -1", x.apart(1, 0, -1, 0), IceVote.BAD);
        Due.due("23: alike", x.apart(1, 3, 3, 0), IceVote.BAD);
        Due.due("23: what 2", x.apart(1, 0, 1, 2), IceVote.BAD);
        Due.due("23: what -1", x.apart(1, 0, 1, -1), IceVote.BAD);
    }
}
