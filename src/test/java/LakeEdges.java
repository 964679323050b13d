/** Promises 1 to 8 where they begin and end: at first, the least, the most, none there yet, all full. */
final class LakeEdges {
    private LakeEdges() {
    }

    static void all() {
        newVoters();
        newKinds();
        newIce();
        newWeather();
        newDay();
        newWords();
        newFraction();
        lakeOfIce();
        lakeAnew();
        lakeKeeps();
        lakeVoters();
        cellWas();
        cellsOfTheRows();
        weatherWas();
        weatherOfEachDay();
        wardWas();
        votersAsTheyCome();
        typed();
        typedUpToTheMost();
        cleared();
    }

    private static void newVoters() {
        Edge.of(1, "no VOTERS");
        IceVote x = new IceVote();
        Edge.due("count(0)", x.count(0), 0);
        Edge.due("votes(0)", x.votes(0), 0);
        for (int what = 3; what <= 6; what++) {
            Edge.due("count(" + what + ")", x.count(what), 0);
        }
        for (int what = 0; what <= 2; what++) {
            Edge.due("status(" + what + ")", x.status(what), 0);
        }
    }

    private static void newKinds() {
        Edge.of(1, "Each has a KIND (0 at first)");
        IceVote x = new IceVote();
        for (int c = 0; c < 25; c++) {
            Edge.due("of(" + c + ", 0)", x.of(c, 0), 0);
        }
    }

    private static void newIce() {
        Edge.of(1, "ICE (0 .. 99; 0 at first)");
        IceVote x = new IceVote();
        for (int c = 0; c < 25; c++) {
            Edge.due("of(" + c + ", 1)", x.of(c, 1), 0);
            Edge.due("of(" + c + ", 2)", x.of(c, 2), 0);
        }
        Edge.due("count(2)", x.count(2), 0);
    }

    private static void newWeather() {
        Edge.of(1, "FROST, SUN (0 .. 9; both 0 at first)");
        IceVote x = new IceVote();
        Edge.due("day(7)", x.day(7), 0);
        for (int d = 0; d < 7; d++) {
            Edge.due("weather(" + d + ", 9, 9)", x.weather(d, 9, 9), 0);
        }
    }

    private static void newDay() {
        Edge.of(1, "DAYS have numbers, 0 at first");
        Edge.due("count(1)", new IceVote().count(1), 0);
    }

    private static void newWords() {
        Edge.of(1, "WARDS 0 .. 3 have a word each (0 .. 99; 0 at first)");
        IceVote x = new IceVote();
        Edge.due("lies()", x.lies(), 0);
        for (int w = 0; w < 4; w++) {
            Edge.due("ward(" + w + ", 99)", x.ward(w, 99), 0);
        }
    }

    private static void newFraction() {
        Edge.of(1, "THE FRACTION is 0 by 1 at first");
        IceVote x = new IceVote();
        Edge.due("part(0)", x.part(0), 0);
        Edge.due("part(1)", x.part(1), 1);
    }

    private static void lakeOfIce() {
        Edge.of(2, "ICE of each CELL");
        int[] ices = {0, 1, 98, 99};
        for (int ice : ices) {
            IceVote x = Lakes.full();
            x.lake(ice);
            for (int c = 0; c < 25; c++) {
                Edge.due("of(" + c + ", 1) behind lake(" + ice + ")", x.of(c, 1), ice);
            }
        }
    }

    private static void lakeAnew() {
        Edge.of(2, "all else as at first");
        IceVote x = Lakes.full();
        x.lake(0);
        int[] want = {0, 0, 0, 0, 0, 0, 150};
        for (int what = 0; what <= 6; what++) {
            Edge.due("count(" + what + ")", x.count(what), want[what]);
        }
        Edge.due("undo()", x.undo(), IceVote.NO);
        for (int c = 0; c < 25; c++) {
            Edge.due("of(" + c + ", 0)", x.of(c, 0), 0);
        }
        for (int d = 0; d < 7; d++) {
            Edge.due("weather(" + d + ", 0, 0)", x.weather(d, 0, 0), 0);
        }
        for (int w = 0; w < 4; w++) {
            Edge.due("ward(" + w + ", 0)", x.ward(w, 0), 0);
        }
    }

    private static void lakeKeeps() {
        Edge.of(2, "(but for IMAGES, THE TEXT, THE FRACTION, STATUS)");
        IceVote x = Lakes.some();
        IceVote twin = Lakes.some();
        x.undo();
        x.voter(9, 0, 0);
        x.lake(0);
        Edge.due("part(0)", x.part(0), 7);
        Edge.due("part(1)", x.part(1), 10);
        Edge.due("status(0)", x.status(0), 1);
        Edge.due("count(6)", x.count(6), twin.count(6));
        for (int i = 0; i <= 1; i++) {
            x.from(i);
            twin.from(i);
            Edge.due("digest() behind from(" + i + ")", x.digest(), twin.digest());
        }
        Edge.due("read()", x.read(), twin.read());
    }

    private static void lakeVoters() {
        Edge.of(2, "how many VOTERS there were");
        IceVote x = Lakes.full();
        Edge.due("lake(99)", x.lake(99), 7);
        Edge.due("lake(0)", x.lake(0), 0);
        x.voter(0, 1, 0);
        Edge.due("lake(0) behind one came", x.lake(0), 1);
    }

    private static void cellWas() {
        Edge.of(3, "The KIND of a CELL: what it was");
        IceVote x = new IceVote();
        int[] ends = {0, 24};
        for (int c : ends) {
            Edge.due("cell(" + c + ", 5)", x.cell(c, 5), 0);
            for (int kind = 4; kind >= 0; kind--) {
                Edge.due("cell(" + c + ", " + kind + ")", x.cell(c, kind), kind + 1);
            }
            Edge.due("cell(" + c + ", 0) again", x.cell(c, 0), 0);
            Edge.due("cell(" + c + ", 5) again", x.cell(c, 5), 0);
        }
        for (int c = 0; c < 25; c++) {
            Edge.due("of(" + c + ", 0)", x.of(c, 0), c == 0 || c == 24 ? 5 : 0);
        }
    }

    private static void cellsOfTheRows() {
        Edge.of(20, "24: 5 times the row (0 .. 4) and the column (0 .. 4)");
        for (int c = 0; c < 25; c++) {
            IceVote x = Lakes.of(9);
            for (int other = 0; other < 25; other++) {
                int away = Math.abs(c / 5 - other / 5) + Math.abs(c % 5 - other % 5);
                Edge.due("path(1, " + c + ", " + other + ", -1)", x.path(1, c, other, -1), away + 1);
            }
        }
    }

    private static void weatherWas() {
        Edge.of(4, "10 FROST and SUN ahead of it");
        IceVote x = new IceVote();
        int[] ends = {0, 6};
        for (int d : ends) {
            Edge.due("weather(" + d + ", 9, 9)", x.weather(d, 9, 9), 0);
            Edge.due("weather(" + d + ", 0, 9)", x.weather(d, 0, 9), 99);
            Edge.due("weather(" + d + ", 9, 0)", x.weather(d, 9, 0), 9);
            Edge.due("weather(" + d + ", 0, 0)", x.weather(d, 0, 0), 90);
            Edge.due("weather(" + d + ", 0, 0) again", x.weather(d, 0, 0), 0);
        }
    }

    private static void weatherOfEachDay() {
        Edge.of(4, "WEATHER of a day of the week (0 .. 6)");
        IceVote x = new IceVote();
        for (int d = 0; d < 7; d++) {
            x.weather(d, d, 9 - d);
        }
        for (int d = 0; d < 7; d++) {
            Edge.due("weather(" + d + ", 0, 0)", x.weather(d, 0, 0), 10 * d + 9 - d);
        }
    }

    private static void wardWas() {
        Edge.of(5, "The word of a WARD: what it was");
        IceVote x = new IceVote();
        for (int w = 0; w < 4; w++) {
            Edge.due("ward(" + w + ", 99)", x.ward(w, 99), 0);
            Edge.due("ward(" + w + ", 0)", x.ward(w, 0), 99);
            Edge.due("ward(" + w + ", " + (90 + w) + ")", x.ward(w, 90 + w), 0);
        }
        for (int w = 0; w < 4; w++) {
            Edge.due("ward(" + w + ", 1)", x.ward(w, 1), 90 + w);
        }
    }

    private static void votersAsTheyCome() {
        Edge.of(6, "VOTERS 0 .. 6, as they come: a KIND, a WEIGHT (1 .. 99), a CELL");
        int[] kinds = {5, 0, 2, 3, 4, 1, 5};
        int[] weights = {1, 99, 2, 98, 50, 49, 99};
        int[] cells = {24, 0, 23, 1, 12, 7, 24};
        IceVote x = new IceVote();
        for (int v = 0; v < 7; v++) {
            Edge.due("voter " + v, x.voter(kinds[v], weights[v], cells[v]), v);
            Edge.due("count(0)", x.count(0), v + 1);
        }
        for (int v = 0; v < 7; v++) {
            Edge.due("about(" + v + ", 0)", x.about(v, 0), kinds[v]);
            Edge.due("about(" + v + ", 1)", x.about(v, 1), weights[v]);
            Edge.due("about(" + v + ", 2)", x.about(v, 2), cells[v]);
        }
    }

    private static void typed() {
        Edge.of(7, "A byte (0 .. 127) comes behind THE TEXT: how many it has");
        IceVote x = new IceVote();
        for (int c = 0; c <= 127; c++) {
            Edge.due("type(" + c + ")", x.type(c), c + 1);
        }
        Edge.due("count(6)", x.count(6), 128);
    }

    private static void typedUpToTheMost() {
        Edge.of(7, "(150 bytes at most)");
        IceVote x = new IceVote();
        String text = Lakes.padded("lake 1;", 149) + "x";
        for (int i = 0; i < 150; i++) {
            Edge.due("type " + i, x.type(text.charAt(i)), i + 1);
        }
        Edge.due("the 151st", x.type(';'), IceVote.FULL);
        Edge.due("the 152nd", x.type(' '), IceVote.FULL);
        Edge.due("count(6)", x.count(6), 150);
        Edge.due("read()", x.read(), -10 - 149);
        Edge.due("clear()", x.clear(), 150);
        Edge.due("type behind clear()", x.type(';'), 1);
    }

    private static void cleared() {
        Edge.of(8, "THE TEXT is empty: how many it had");
        IceVote x = new IceVote();
        Edge.due("clear() of none", x.clear(), 0);
        x.type(0);
        Edge.due("clear() of one", x.clear(), 1);
        Edge.due("clear() again", x.clear(), 0);
        Edge.due("count(6)", x.count(6), 0);
        x = Lakes.full();
        long ice = x.count(2);
        Edge.due("clear() of all", x.clear(), 150);
        Edge.due("read()", x.read(), -10);
        Edge.due("count(2)", x.count(2), ice);
    }
}
