/** Promises 16 to 23 where they begin and end: now or in 60 days, just borne or not, paths and cuts. */
final class BearsEdges {
    private BearsEdges() {
    }

    static void all() {
        nothingIsChanged();
        thenDays();
        thenWeather();
        beyondTheLastDay();
        whenFirst();
        whenNone();
        whereNowAndThen();
        horsesJust();
        horsesNone();
        pathToTheSame();
        pathJustBorne();
        pathFewest();
        pathFirst();
        pathNone();
        pathOfNone();
        pathOfWeight();
        pathNotSoMany();
        pathBad();
        safeMost();
        crossJust();
        crossOfWeight();
        crossMost();
        crossEach();
        apartTwoAtMost();
        apartNeitherEnd();
        apartOne();
        apartTwo();
        apartNone();
        apartOfWeight();
    }

    /** Breaks these cells: none of them bears anything then. */
    private static void breakCells(IceVote x, int... cells) {
        for (int c : cells) {
            // Half of any ICE bears no more than 98.
            x.stone(c);
            x.tread(c, 99);
        }
    }

    private static void nothingIsChanged() {
        Edge.of(16, "(Nothing is changed by these");
        Calls[] calls = {Calls.THEN, Calls.WHEN, Calls.WHERE, Calls.HORSES, Calls.PATH, Calls.SAFE, Calls.CROSS,
            Calls.APART, Calls.VOTES, Calls.TURN, Calls.SEEN, Calls.LIES, Calls.STONES, Calls.IS, Calls.NEXT, Calls.WHO,
            Calls.TWO, Calls.WINTERS};
        int[][] numbers = {{24, 60, 1}, {24, 198}, {198, 60}, {198}, {1, 0, 24, 3}, {0, 24}, {1, 0, 24}, {1, 6, 18, 1},
            {2}, {}, {1, 2}, {}, {40, 0, 1}, {0}, {0}, {0}, {0, 2}, {999999, 60}};
        for (int i = 0; i < calls.length; i++) {
            IceVote x = Lakes.full();
            calls[i].on(x, numbers[i]);
            Edge.due("status(0) behind " + calls[i].told(numbers[i]), x.status(0), 0);
            Edge.alike("behind " + calls[i].told(numbers[i]), x, Lakes.full());
        }
    }

    private static void thenDays() {
        Edge.of(16, "ICE of a CELL behind m (0 .. 60) DAYS");
        IceVote x = Due.told("lake 0;cell 3 24;week 1 0;");
        Edge.due("then(0, 0, 0)", x.then(0, 0, 0), 0);
        Edge.due("then(0, 0, 1)", x.then(0, 0, 1), 0);
        Edge.due("then(0, 1, 0)", x.then(0, 1, 0), 1);
        Edge.due("then(0, 1, 1)", x.then(0, 1, 1), 2);
        Edge.due("then(0, 7, 0)", x.then(0, 7, 0), 1);
        Edge.due("then(0, 8, 0)", x.then(0, 8, 0), 2);
        Edge.due("then(0, 56, 0)", x.then(0, 56, 0), 8);
        Edge.due("then(0, 60, 0)", x.then(0, 60, 0), 9);
        Edge.due("then(24, 60, 0)", x.then(24, 60, 0), 18);
        Edge.due("then(24, 60, 1)", x.then(24, 60, 1), 36);
    }

    private static void thenWeather() {
        Edge.of(16, "THEN: ICE of a CELL behind m (0 .. 60) DAYS; what it BEARS");
        IceVote x = Due.told("lake 20;week 1 0 0 2 4 0 0 8 7 9 9 0 0 5;");
        // ICE behind 0, 1, .. DAYS from 0 on, some of the next week, too.
        int[] ices = {20, 21, 19, 23, 15, 13, 22, 17, 18, 16, 20};
        for (int day = 0; day < 4; day++) {
            for (int m = 0; day + m < ices.length; m++) {
                String from = " from DAY " + day;
                int ice = ices[day + m];
                Edge.due("then(24, " + m + ", 0)" + from, x.then(24, m, 0), ice);
                Edge.due("then(24, " + m + ", 1)" + from, x.then(24, m, 1), 2 * ice);
                Edge.due("where(" + 2 * ice + ", " + m + ")" + from, x.where(2 * ice, m), Lakes.ALL);
                Edge.due("where(" + (2 * ice + 1) + ", " + m + ")" + from, x.where(2 * ice + 1, m), 0);
            }
            x.day(1);
        }
    }

    private static void beyondTheLastDay() {
        Edge.of(16, "DAYS go beyond 999 in them");
        IceVote x = Lakes.onDay(999, 0);
        // DAY 999 has the weather of 5, 1000 that of 6, 1001 that of 0.
        x.weather(5, 1, 0);
        x.weather(6, 2, 0);
        x.weather(0, 4, 0);
        int[] ices = {0, 1, 3, 7, 7};
        for (int m = 0; m < ices.length; m++) {
            Edge.due("then(24, " + m + ", 0)", x.then(24, m, 0), ices[m]);
            Edge.due("then(24, " + m + ", 1)", x.then(24, m, 1), 2 * ices[m]);
        }
        Edge.due("when(24, 14)", x.when(24, 14), 3);
        Edge.due("when(24, 15)", x.when(24, 15), 8);
        Edge.due("where(14, 3)", x.where(14, 3), Lakes.ALL);
        Edge.due("where(14, 2)", x.where(14, 2), 0);
        Edge.due("horses(14)", x.horses(14), 3);
        Edge.due("horses(15)", x.horses(15), 8);
        x.thaw(24, 14, 3, 5);
        Edge.due("part(1) behind thaw(24, 14, 3, 5)", x.part(1), 8);
        Edge.due("count(1)", x.count(1), 999);
    }

    private static void whenFirst() {
        Edge.of(17, "in how many DAYS (0 .. 60) a CELL BEARS w (1 .. 198) or more first");
        IceVote x = Due.told("lake 3;week 0 3 5 0 0 5 6 0;");
        // ICE behind 0, 1, .. DAYS: 3, 0, 5, 0, 6.
        Edge.due("when(0, 1)", x.when(0, 1), 0);
        Edge.due("when(0, 6)", x.when(0, 6), 0);
        Edge.due("when(0, 7)", x.when(0, 7), 2);
        Edge.due("when(0, 10)", x.when(0, 10), 2);
        Edge.due("when(0, 11)", x.when(0, 11), 4);
        Edge.due("when(0, 12)", x.when(0, 12), 4);
        x = Lakes.of(99);
        Edge.due("when(24, 198)", x.when(24, 198), 0);
        x = Due.told("lake 0;week 0 0 0 0 0 0 1 0;");
        x.day(7);
        x.stone(0);
        Edge.due("when(24, 18) in 60", x.when(24, 18), 53);
        x.day(1);
        Edge.due("when(24, 20) in 59", x.when(24, 20), 59);
        x.undo();
        Edge.due("when(24, 20) in 60", x.when(24, 20), 60);
    }

    private static void whenNone() {
        Edge.of(17, "WHEN. NONE");
        Edge.due("when(24, 1) of a new one", new IceVote().when(24, 1), IceVote.NONE);
        Edge.of(17, "a CELL BEARS w (1 .. 198) or more first; none. WHERE");
        IceVote x = Due.told("lake 0;week 0 0 0 0 0 0 1 0;");
        x.day(6);
        // The frost is on DAYS 10, 17, .. then; behind 61 of them it is thick enough.
        Edge.due("when(24, 18)", x.when(24, 18), 54);
        Edge.due("when(24, 20) in 61", x.when(24, 20), IceVote.NONE);
        x = new IceVote();
        Edge.due("when(0, 1) on none", x.when(0, 1), IceVote.NONE);
        x = Lakes.of(99);
        x.stone(0);
        Edge.due("when(0, 198)", x.when(0, 198), IceVote.NONE);
        Edge.due("when(0, 99)", x.when(0, 99), IceVote.NONE);
        Edge.due("when(0, 98)", x.when(0, 98), 0);
    }

    private static void whereNowAndThen() {
        Edge.of(18, "CELLS (bits) that BEAR w (1 .. 198) or more behind m (0 .. 60) DAYS");
        IceVote x = Due.told("lake 0;cell 3 0;cell 5 24;week 1 0;");
        Edge.due("where(1, 0)", x.where(1, 0), 0);
        Edge.due("where(1, 1)", x.where(1, 1), Lakes.ALL & ~(1 << 24));
        Edge.due("where(3, 1)", x.where(3, 1), 1);
        Edge.due("where(4, 1)", x.where(4, 1), 1);
        Edge.due("where(5, 1)", x.where(5, 1), 0);
        Edge.due("where(18, 60)", x.where(18, 60), Lakes.ALL & ~(1 << 24));
        Edge.due("where(19, 60)", x.where(19, 60), 1);
        Edge.due("where(36, 60)", x.where(36, 60), 1);
        Edge.due("where(37, 60)", x.where(37, 60), 0);
        x = Lakes.of(99);
        Edge.due("where(198, 0)", x.where(198, 0), Lakes.ALL);
        x.cell(0, 4);
        Edge.due("where(198, 0) but for a mouth", x.where(198, 0), Lakes.ALL - 1);
        Edge.due("where(193, 0) with a mouth", x.where(193, 0), Lakes.ALL);
    }

    private static void horsesJust() {
        Edge.of(19, "in how many DAYS (0 .. 60) all CELLS together BEAR 25 w or more first");
        IceVote x = Due.told("lake 20;week 1 0;");
        Edge.due("horses(40) of 1000", x.horses(40), 0);
        Edge.due("horses(41) of 1050", x.horses(41), 1);
        x.cell(0, 5);
        Edge.due("horses(40) of 980", x.horses(40), 1);
        Edge.due("horses(1)", x.horses(1), 0);
        x = Due.told("lake 20;cell 5 " + Lakes.EACH + ";week 3 0;");
        Edge.due("horses(20) of 500", x.horses(20), 0);
        x.tread(0, 1);
        Edge.due("horses(20) of 499", x.horses(20), 1);
        Edge.due("horses(198) of 4950", Lakes.of(99).horses(198), 0);
        x = Due.told("lake 1;week 0 1 2 0 0 2 2 0;");
        Edge.due("horses(2)", x.horses(2), 0);
        Edge.due("horses(3)", x.horses(3), 2);
        Edge.due("horses(4)", x.horses(4), 2);
        x = Due.told("lake 1;week 1 0 0 1 2 0;");
        Edge.due("horses(5) behind frost and sun", x.horses(5), 3);
        Edge.due("horses(6) behind frost and sun", x.horses(6), 3);
        Edge.due("horses(7) behind the next week's frost", x.horses(7), 8);
    }

    private static void horsesNone() {
        Edge.of(19, "HORSES by w (1 .. 198). NONE");
        Edge.due("horses(1) of none", new IceVote().horses(1), IceVote.NONE);
        Edge.of(19, "all CELLS together BEAR 25 w or more first; none");
        IceVote x = Lakes.of(99);
        x.tread(0, 99);
        Edge.due("horses(198) of 4948", x.horses(198), IceVote.NONE);
        x = Due.told("lake 0;week 0 0 0 0 0 0 1 0;");
        x.day(6);
        Edge.due("horses(20) in 61", x.horses(20), IceVote.NONE);
        x.day(1);
        Edge.due("horses(20) in 60", x.horses(20), 60);
    }

    private static void pathIs(IceVote x, int w, int a, int b, int... cells) {
        String about = "path(" + w + ", " + a + ", " + b + ", ";
        Edge.due(about + "-1)", x.path(w, a, b, -1), cells.length);
        for (int i = 0; i < cells.length; i++) {
            Edge.due(about + i + ")", x.path(w, a, b, i), cells[i]);
        }
    }

    private static void pathToTheSame() {
        Edge.of(20, "from a CELL to one (it may be the same)");
        IceVote x = Lakes.of(30);
        pathIs(x, 60, 0, 0, 0);
        pathIs(x, 60, 24, 24, 24);
        Edge.due("path(61, 0, 0, -1)", x.path(61, 0, 0, -1), IceVote.NONE);
        Edge.due("path(61, 24, 24, 0)", x.path(61, 24, 24, 0), IceVote.NONE);
    }

    private static void pathJustBorne() {
        Edge.of(20, "from one to one BESIDE, each BEARING w or more, as it is");
        IceVote x = Lakes.of(30);
        breakCells(x, 5, 6, 7, 8, 9);
        pathIs(x, 60, 0, 2, 0, 1, 2);
        x.tread(1, 60);
        Edge.due("path(59, 0, 2, -1) over 58", x.path(59, 0, 2, -1), IceVote.NONE);
        pathIs(x, 58, 0, 2, 0, 1, 2);
        Edge.due("path(59, 1, 2, -1) from 58", x.path(59, 1, 2, -1), IceVote.NONE);
        Edge.due("path(59, 2, 1, -1) to 58", x.path(59, 2, 1, -1), IceVote.NONE);
        // The ends of rows are not beside one another, nor the first row and the last one.
        x = Lakes.of(30);
        breakCells(x, 3, 9, 10, 11, 12, 13, 14);
        Edge.due("path(1, 4, 5, -1)", x.path(1, 4, 5, -1), IceVote.NONE);
        Edge.due("path(1, 0, 20, -1)", x.path(1, 0, 20, -1), IceVote.NONE);
        x = Lakes.of(99);
        pathIs(x, 198, 23, 24, 23, 24);
        // Frost to come counts for none.
        x = Due.told("lake 0;week 9 0;");
        Edge.due("path(1, 0, 1, -1)", x.path(1, 0, 1, -1), IceVote.NONE);
    }

    private static void pathFewest() {
        Edge.of(20, "by fewest CELLS: how many");
        IceVote x = Lakes.of(30);
        pathIs(x, 1, 20, 4, 20, 15, 10, 5, 0, 1, 2, 3, 4);
        x.lake(30);
        // By 5 it goes, too, but round about.
        breakCells(x, 6, 11);
        pathIs(x, 1, 10, 12, 10, 15, 16, 17, 12);
        x.lake(30);
        breakCells(x, 5, 6, 7, 8, 16, 17, 18, 19);
        pathIs(x, 1, 0, 24, 0, 1, 2, 3, 4, 9, 14, 13, 12, 11, 10, 15, 20, 21, 22, 23, 24);
    }

    private static void pathFirst() {
        Edge.of(20, "the i-th one of the first such (rising)");
        IceVote x = Lakes.of(30);
        pathIs(x, 1, 0, 6, 0, 1, 6);
        pathIs(x, 1, 6, 0, 6, 1, 0);
        pathIs(x, 1, 6, 18, 6, 7, 8, 13, 18);
        pathIs(x, 1, 18, 6, 18, 13, 8, 7, 6);
        pathIs(x, 1, 8, 16, 8, 7, 6, 11, 16);
        pathIs(x, 1, 16, 8, 16, 11, 6, 7, 8);
        breakCells(x, 7);
        pathIs(x, 1, 6, 18, 6, 11, 12, 13, 18);
    }

    private static void pathNone() {
        Edge.of(20, "NONE: none (whatever i is, as told)");
        IceVote x = Lakes.of(30);
        int[] is = {-1, 0, 1, 24, 25, Integer.MAX_VALUE};
        for (int i : is) {
            Edge.due("path(61, 0, 24, " + i + ")", x.path(61, 0, 24, i), IceVote.NONE);
        }
        breakCells(x, 2, 7, 12, 17, 22);
        for (int i : is) {
            Edge.due("path(1, 1, 3, " + i + ")", x.path(1, 1, 3, i), IceVote.NONE);
            Edge.due("path(1, 1, 2, " + i + ")", x.path(1, 1, 2, i), IceVote.NONE);
            Edge.due("path(1, 2, 1, " + i + ")", x.path(1, 2, 1, i), IceVote.NONE);
        }
    }

    private static void pathOfNone() {
        Edge.of(20, "of the first such (rising); none. SAFE");
        IceVote x = new IceVote();
        Edge.due("path(1, 0, 24, -1) on none", x.path(1, 0, 24, -1), IceVote.NONE);
        Edge.due("path(1, 7, 7, -1) on none", x.path(1, 7, 7, -1), IceVote.NONE);
        x = Lakes.of(30);
        breakCells(x, 19, 23);
        Edge.due("path(1, 0, 24, -1) to a corner cut off", x.path(1, 0, 24, -1), IceVote.NONE);
        Edge.due("path(1, 24, 0, -1) from a corner cut off", x.path(1, 24, 0, -1), IceVote.NONE);
        pathIs(x, 1, 24, 24, 24);
    }

    private static void pathOfWeight() {
        Edge.of(20, "PATH for w (1 .. 198): how many (i = NONE), the i-th one");
        IceVote x = Lakes.of(1);
        pathIs(x, 1, 0, 5, 0, 5);
        pathIs(x, 2, 0, 5, 0, 5);
        Edge.due("path(3, 0, 5, -1)", x.path(3, 0, 5, -1), IceVote.NONE);
        x = Lakes.of(99);
        pathIs(x, 198, 0, 5, 0, 5);
        x.tread(5, 1);
        Edge.due("path(198, 0, 5, -1)", x.path(198, 0, 5, -1), IceVote.NONE);
        pathIs(x, 196, 0, 5, 0, 5);
    }

    private static void pathNotSoMany() {
        Edge.of(20, "-5: not so many");
        IceVote x = Lakes.of(30);
        int[] is = {9, 10, 24, 25, Integer.MAX_VALUE};
        Edge.due("path(1, 0, 24, 8)", x.path(1, 0, 24, 8), 24);
        for (int i : is) {
            Edge.due("path(1, 0, 24, " + i + ")", x.path(1, 0, 24, i), -5);
        }
        Edge.due("path(1, 7, 7, 0)", x.path(1, 7, 7, 0), 7);
        Edge.due("path(1, 7, 7, 1)", x.path(1, 7, 7, 1), -5);
        for (int what = 0; what <= 2; what++) {
            Edge.due("status(" + what + ")", x.status(what), 0);
        }
    }

    private static void pathBad() {
        Edge.of(20, "BAD: -10: i below -1, too");
        IceVote x = Lakes.of(30);
        Edge.due("path(1, 0, 24, -2)", x.path(1, 0, 24, -2), -10);
        Edge.due("path(1, 0, 24, MIN)", x.path(1, 0, 24, Integer.MIN_VALUE), -10);
        Edge.due("path(61, 0, 24, -2), of which there is none", x.path(61, 0, 24, -2), -10);
        Edge.due("path(199, 0, 24, -1)", x.path(199, 0, 24, -1), -10);
        Edge.due("path(1, 25, 24, -1)", x.path(1, 25, 24, -1), -10);
        Edge.due("status(0)", x.status(0), 5);
    }

    private static void safeMost() {
        Edge.of(21, "the most (0 .. 198) for which there is a PATH from a to b");
        IceVote x = new IceVote();
        Edge.due("safe(0, 24) on none", x.safe(0, 24), 0);
        Edge.due("safe(7, 7) on none", x.safe(7, 7), 0);
        x = Lakes.of(99);
        Edge.due("safe(0, 24) on all", x.safe(0, 24), 198);
        Edge.due("safe(7, 7) on all", x.safe(7, 7), 198);
        x.tread(24, 99);
        Edge.due("safe(0, 24)", x.safe(0, 24), 196);
        Edge.due("safe(24, 0)", x.safe(24, 0), 196);
        breakCells(x, 24);
        Edge.due("safe(0, 24) to none", x.safe(0, 24), 0);
        Edge.due("safe(24, 0) from none", x.safe(24, 0), 0);
        for (int ice = 0; ice <= 99; ice++) {
            x = Lakes.of(ice);
            x.cell(0, 5);
            Edge.due("safe(0, 1) from a drift of " + ice, x.safe(0, 1), ice);
            Edge.due("safe(24, 1) of plain ones of " + ice, x.safe(24, 1), 2 * ice);
            x.cell(0, 4);
            Edge.due("safe(1, 0) to a mouth of " + ice, x.safe(1, 0), Math.max(0, 2 * ice - 5));
        }
    }

    private static void crossJust() {
        Edge.of(22, "sledges of WEIGHT w go one by one by the PATH");
        IceVote x = Lakes.of(30);
        Edge.due("cross(61, 0, 1)", x.cross(61, 0, 1), 0);
        Edge.due("cross(60, 0, 1)", x.cross(60, 0, 1), 1);
        Edge.due("cross(59, 0, 1)", x.cross(59, 0, 1), 1);
        Edge.due("cross(58, 0, 1)", x.cross(58, 0, 1), 2);
        Edge.due("cross(1, 0, 1)", x.cross(1, 0, 1), 30);
        Edge.due("cross(1, 0, 1) on none", new IceVote().cross(1, 0, 1), 0);
    }

    private static void crossOfWeight() {
        Edge.of(22, "CROSS by w (1 .. 99)");
        Edge.due("cross(1, 0, 24) on 1", Lakes.of(1).cross(1, 0, 24), 1);
        Edge.due("cross(99, 0, 24) on 50", Lakes.of(50).cross(99, 0, 24), 1);
        Edge.due("cross(99, 0, 24) on 49", Lakes.of(49).cross(99, 0, 24), 0);
    }

    private static void crossMost() {
        Edge.of(22, "how many can (40 at most)");
        Edge.due("cross(1, 0, 24) on 39", Lakes.of(39).cross(1, 0, 24), 39);
        Edge.due("cross(1, 0, 24) on 40", Lakes.of(40).cross(1, 0, 24), 40);
        Edge.due("cross(1, 0, 24) on 41", Lakes.of(41).cross(1, 0, 24), 40);
        Edge.due("cross(99, 24, 0) on 99", Lakes.of(99).cross(99, 24, 0), 40);
    }

    private static void crossEach() {
        Edge.of(22, "(each by the one there is then), ICE of each of its CELLS is 1 less (0 at least) behind each");
        IceVote x = Lakes.of(9);
        // Cell 1 bears one sledge, cell 5 two.
        x.tread(1, 18);
        x.tread(1, 16);
        x.tread(5, 18);
        Edge.due("cross(14, 0, 6)", x.cross(14, 0, 6), 3);
        Edge.due("cross(14, 6, 0)", x.cross(14, 6, 0), 3);
        // The first one, the last one and one between them wear off, too.
        int[] path = {0, 1, 2};
        for (int thin : path) {
            x = Lakes.of(9);
            breakCells(x, 5, 6, 7, 8, 9);
            x.stone(thin);
            Edge.due("cross(6, 0, 2), " + thin + " thin", x.cross(6, 0, 2), 2);
            Edge.due("cross(6, 2, 0), " + thin + " thin", x.cross(6, 2, 0), 2);
        }
        x = Lakes.of(1);
        Edge.due("cross(1, 0, 24) on 1", x.cross(1, 0, 24), 1);
        Edge.due("cross(2, 0, 24) on 1", x.cross(2, 0, 24), 1);
        Edge.due("count(2)", x.count(2), 25);
    }

    private static void partIs(IceVote x, int w, int a, int b, int cells, int which) {
        String about = "apart(" + w + ", " + a + ", " + b + ", ";
        Edge.due(about + "0)", x.apart(w, a, b, 0), cells);
        Edge.due(about + "1)", x.apart(w, a, b, 1), which);
    }

    private static void apartTwoAtMost() {
        Edge.of(23, "PART: the fewest CELLS (2 at most");
        IceVote x = Lakes.of(30);
        partIs(x, 1, 6, 18, IceVote.NONE, IceVote.NONE);
        breakCells(x, 1);
        // Three more lead from 6, then two, then one.
        partIs(x, 1, 6, 18, IceVote.NONE, IceVote.NONE);
        breakCells(x, 5);
        partIs(x, 1, 6, 18, 2, 32 * 7 + 11);
        breakCells(x, 7);
        partIs(x, 1, 6, 18, 1, 32 * 31 + 11);
        breakCells(x, 11);
        partIs(x, 1, 6, 18, 0, 0);
    }

    private static void apartNeitherEnd() {
        Edge.of(23, "neither a nor b) without which there is no PATH for w");
        IceVote x = Lakes.of(30);
        partIs(x, 60, 0, 1, IceVote.NONE, IceVote.NONE);
        partIs(x, 60, 24, 19, IceVote.NONE, IceVote.NONE);
        breakCells(x, 1, 7, 11, 12, 13);
        // From 6 it goes by 5 alone, and from there by 10 alone.
        partIs(x, 60, 6, 24, 1, 32 * 31 + 5);
        partIs(x, 60, 5, 24, 1, 32 * 31 + 10);
    }

    private static void apartOne() {
        Edge.of(23, "32 times the lesser and the greater one (one: 32 times 31 and it; of like ones the least)");
        IceVote x = Lakes.of(30);
        breakCells(x, 5, 6, 7, 8, 9);
        // Of the first row each cell between is one.
        partIs(x, 1, 0, 4, 1, 32 * 31 + 1);
        partIs(x, 1, 4, 0, 1, 32 * 31 + 1);
        partIs(x, 1, 1, 4, 1, 32 * 31 + 2);
        partIs(x, 1, 2, 4, 1, 32 * 31 + 3);
        x = Lakes.of(30);
        breakCells(x, 2, 6);
        partIs(x, 1, 1, 24, 1, 32 * 31);
        x = Lakes.of(30);
        breakCells(x, 18, 22);
        partIs(x, 1, 23, 19, 1, 32 * 31 + 24);
        partIs(x, 1, 23, 0, 1, 32 * 31 + 14);
    }

    private static void apartTwo() {
        Edge.of(23, "32 times the lesser and the greater one");
        IceVote x = Lakes.of(30);
        partIs(x, 60, 0, 24, 2, 32 * 1 + 5);
        partIs(x, 60, 24, 0, 2, 32 * 1 + 5);
        partIs(x, 60, 12, 24, 2, 32 * 19 + 23);
        partIs(x, 60, 4, 12, 2, 32 * 3 + 9);
        partIs(x, 60, 20, 12, 2, 32 * 15 + 21);
        breakCells(x, 2);
        partIs(x, 1, 1, 24, 2, 32 * 0 + 6);
        // Others that are further away part them, too, and these may be less.
        x = Lakes.of(30);
        breakCells(x, 6);
        partIs(x, 1, 0, 24, 2, 32 * 1 + 5);
        x = Lakes.of(30);
        breakCells(x, 18);
        partIs(x, 1, 0, 24, 2, 32 * 1 + 5);
        partIs(x, 1, 12, 24, 2, 32 * 14 + 22);
        // Two that are beside one another.
        x = Lakes.of(30);
        breakCells(x, 17, 18, 19);
        partIs(x, 1, 5, 21, 2, 32 * 10 + 11);
    }

    private static void apartNone() {
        Edge.of(23, "none (0: there is no PATH as it is)");
        IceVote x = Lakes.of(30);
        partIs(x, 61, 0, 24, 0, 0);
        partIs(x, 61, 0, 1, 0, 0);
        breakCells(x, 1, 5);
        partIs(x, 1, 0, 24, 0, 0);
        partIs(x, 1, 0, 1, 0, 0);
        partIs(x, 1, 1, 0, 0, 0);
        Edge.of(23, "which (1; none: 0). NONE");
        partIs(x, 1, 0, 24, 0, 0);
        partIs(x, 1, 12, 18, IceVote.NONE, IceVote.NONE);
    }

    private static void apartOfWeight() {
        Edge.of(23, "PART for w (1 .. 198): how many (0)");
        IceVote x = Lakes.of(99);
        partIs(x, 198, 0, 24, 2, 32 * 1 + 5);
        x.tread(1, 1);
        partIs(x, 198, 0, 24, 1, 32 * 31 + 5);
        partIs(x, 197, 0, 24, 1, 32 * 31 + 5);
        partIs(x, 196, 0, 24, 2, 32 * 1 + 5);
        partIs(x, 1, 0, 24, 2, 32 * 1 + 5);
    }
}
