/** Promise 9 where it begins and ends: what each ITEM and each TOKEN may be, and every FAULT. */
final class TextEdges {
    private static final String WEEK = "week 9 9 8 8 7 7 6 6 5 5 4 4 3 3";

    private TextEdges() {
    }

    static void all() {
        items();
        eachEnded();
        ices();
        onceFirstOfAll();
        kindsAndCells();
        pairs();
        voters();
        words();
        figures();
        blanks();
        blanksNeeded();
        wordsThatAreNone();
        lakeAgain();
        aheadOfLake();
        eighthVoter();
        eighthPair();
        stopWhereThereIsNone();
        runsOfFigures();
        numbersNotAsTold();
        bytesThatBeginNone();
        endsTooEarly();
        firstFault();
        takesThePlace();
        allStays();
    }

    /** The text tells a lake of so many items. */
    private static IceVote reads(String text, int items) {
        IceVote x = new IceVote();
        Edge.due("read() of [" + text + "]", Due.read(x, text), items);
        return x;
    }

    private static void fault(String text, int place) {
        IceVote x = Lakes.of(4);
        Edge.due("read() of [" + text + "]", Due.read(x, text), -10 - place);
        Edge.due("count(2) behind [" + text + "]", x.count(2), 100);
    }

    /** The fault is at the first byte of the text that is told behind the one that may stand. */
    private static void faultBehind(String stands, String fault) {
        fault(stands + fault, stands.length());
    }

    private static void items() {
        Edge.of(9, "THE LAKE is read: how many ITEMS");
        reads("lake 0;", 1);
        reads("lake 0;cell 0 0;", 2);
        reads("lake0;" + "cell0 0;".repeat(18), 19);
        reads(Lakes.padded("lake 0;" + "cell 0 0;".repeat(15), 150), 16);
    }

    private static void eachEnded() {
        Edge.of(9, "of ITEMS, each ended by ;");
        faultBehind("lake 1 ", "cell 1 1;");
        faultBehind("lake 1;cell 1 1 ", "week 1 1;");
        faultBehind("lake 1;week 1 1 ", "voter 1 1 1;");
        faultBehind("lake 1;voter 1 1 1 ", "cell 1 1;");
        fault("lake 1;cell 1 1", 15);
        fault("lake 1;week 1 1", 15);
        fault("lake 1;voter 1 1 1", 18);
        reads("lake 1;cell 1 1;week 1 1;voter 1 1 1;", 4);
    }

    private static void ices() {
        Edge.of(9, "lake ICE (0 .. 99, of each CELL");
        String[] ices = {"0", "00", "1", "01", "9", "98", "99"};
        for (String ice : ices) {
            IceVote x = reads("lake " + ice + ";", 1);
            for (int c = 0; c < 25; c++) {
                Edge.due("of(" + c + ", 1)", x.of(c, 1), Integer.parseInt(ice));
            }
        }
        faultBehind("lake ", "100;");
        faultBehind("lake ", "-1;");
        faultBehind("lake ", ";");
        faultBehind("lake 9 ", "9;");
    }

    private static void onceFirstOfAll() {
        Edge.of(9, "once, first of all)");
        faultBehind("", "cell 0 0;lake 1;");
        faultBehind("", WEEK + ";lake 1;");
        faultBehind("", "voter 0 1 0;");
        faultBehind("lake 1;", "lake 1;");
        faultBehind("lake 1;cell 0 0;", "lake 1;");
    }

    private static void kindsAndCells() {
        Edge.of(9, "cell KIND and CELLS (1 or more)");
        faultBehind("lake 0;cell 5", ";");
        IceVote x = reads("lake 0;cell 5 24;", 2);
        Edge.due("of(24, 0)", x.of(24, 0), 5);
        Edge.due("of(23, 0)", x.of(23, 0), 0);
        x = reads("lake 0;cell 5 " + Lakes.EACH + ";cell 0 0;", 3);
        for (int c = 0; c < 25; c++) {
            Edge.due("of(" + c + ", 0)", x.of(c, 0), c == 0 ? 0 : 5);
        }
        faultBehind("lake 0;cell ", "6 0;");
        faultBehind("lake 0;cell 5 ", "25;");
        faultBehind("lake 0;cell 5 24 ", "25;");
        faultBehind("lake 0;cell", ";");
    }

    private static void pairs() {
        Edge.of(9, "week and up to 7 pairs FROST SUN (of days 0, 1, ..; 1 or more)");
        faultBehind("lake 0;week", ";");
        faultBehind("lake 0;week 9", ";");
        IceVote x = reads("lake 0;week 9 0;", 2);
        Edge.due("weather(0, 0, 0)", x.weather(0, 0, 0), 90);
        Edge.due("weather(1, 0, 0)", x.weather(1, 0, 0), 0);
        x = reads("lake 0;" + WEEK + ";", 2);
        for (int d = 0; d < 7; d++) {
            Edge.due("weather(" + d + ", 0, 0)", x.weather(d, 0, 0), 11 * (9 - d));
        }
        faultBehind("lake 0;week ", "10 0;");
        faultBehind("lake 0;week 0 ", "10;");
        faultBehind("lake 0;week 0 0 ", "10 0;");
        faultBehind("lake 0;week 0 0 0", ";");
    }

    private static void voters() {
        Edge.of(9, "voter KIND WEIGHT CELL. TOKENS");
        IceVote x = reads("lake 0;voter 0 1 0;voter 5 99 24;", 3);
        for (int what = 0; what < 3; what++) {
            Edge.due("about(0, " + what + ")", x.about(0, what), new int[] {0, 1, 0}[what]);
            Edge.due("about(1, " + what + ")", x.about(1, what), new int[] {5, 99, 24}[what]);
        }
        faultBehind("lake 0;voter ", "6 1 0;");
        faultBehind("lake 0;voter 5 ", "0 0;");
        faultBehind("lake 0;voter 5 ", "100 0;");
        faultBehind("lake 0;voter 5 99 ", "25;");
        faultBehind("lake 0;voter 5 99", ";");
        faultBehind("lake 0;voter 5 99 24 ", "0;");
        StringBuilder seven = new StringBuilder("lake 0;");
        for (int v = 0; v < 7; v++) {
            seven.append("voter 0 1 ").append(v).append(';');
        }
        Edge.due("count(0) of seven", reads(seven.toString(), 8).count(0), 7);
    }

    private static void words() {
        Edge.of(9, "words of letters a .. z (a KIND is told as its number)");
        faultBehind("", "alake 0;");
        faultBehind("", "lakez 0;");
        faultBehind("", "lakea 0;");
        faultBehind("lake", "A0;");
        faultBehind("lake", "Z0;");
        faultBehind("lake", "`0;");
        faultBehind("lake", "{0;");
        faultBehind("lake 0;", "Cell 0 0;");
        faultBehind("lake 0;cell ", "plain 0;");
        faultBehind("lake 0;voter ", "party 1 0;");
    }

    private static void figures() {
        Edge.of(9, "figures (1 or 2 are one number)");
        Edge.due("ICE of 5", reads("lake 5;", 1).of(0, 1), 5);
        Edge.due("ICE of 05", reads("lake 05;", 1).of(0, 1), 5);
        Edge.due("ICE of 50", reads("lake 50;", 1).of(0, 1), 50);
        Edge.due("ICE of 90", reads("lake 90;", 1).of(0, 1), 90);
        Edge.due("KIND of 05", reads("lake 0;cell 05 00;", 2).of(0, 0), 5);
        faultBehind("lake ", "/;");
        faultBehind("lake ", ":;");
        faultBehind("lake 9", "/;");
        faultBehind("lake 9", ":;");
        faultBehind("lake 9 ", "9;");
    }

    private static void blanks() {
        Edge.of(9, "blanks (32), any number, ahead of, between and behind TOKENS");
        reads("lake 1;", 1);
        reads(" lake 1;", 1);
        reads("   lake   1   ;   ", 1);
        reads(" ".repeat(143) + "lake 1;", 1);
        reads("lake" + " ".repeat(144) + "1;", 1);
        reads(Lakes.padded("lake 1;", 150), 1);
        faultBehind("lake 1;", (char) 31 + "");
        faultBehind("lake 1;", (char) 33 + "");
        faultBehind("", "la ke 1;");
        faultBehind("lake 1 ", "2;");
    }

    private static void blanksNeeded() {
        Edge.of(9, "(needed only between two words, two numbers)");
        IceVote x = reads("lake9;cell5 24;week1 2;voter3 4 5;", 4);
        Edge.due("of(24, 0)", x.of(24, 0), 5);
        Edge.due("about(0, 1)", x.about(0, 1), 4);
        faultBehind("", "lakecell 1;");
        faultBehind("lake 9;", "cellweek 1;");
        // Two numbers without a blank are one of two figures, or none.
        faultBehind("lake 9;cell ", "51;");
        faultBehind("lake 9;cell 5 ", "1234;");
    }

    private static void wordsThatAreNone() {
        Edge.of(9, "(a word that is none");
        String[] none = {"l", "lak", "lakes", "bake", "ice", "cells", "cel", "wee", "weeks", "vote", "voters", "boter", "voten"};
        for (String word : none) {
            faultBehind("", word + " 1;");
            faultBehind("lake 1;", word + " 1 1 1;");
            faultBehind("lake 1;", word);
            faultBehind("lake 1;cell 1 1 ", word);
        }
    }

    private static void lakeAgain() {
        Edge.of(9, "lake again");
        faultBehind("lake 1;", "lake 1;");
        faultBehind("lake 1; ", "lake");
        faultBehind("lake ", "lake 1;");
        faultBehind("lake 1;voter 0 1 0;", "lake 1;");
    }

    private static void aheadOfLake() {
        Edge.of(9, "anything ahead of it");
        faultBehind("", "1 lake 1;");
        faultBehind("", ";lake 1;");
        faultBehind(" ", "week 1 1;lake 1;");
        faultBehind("", "voter 1 1 1;lake 1;");
        faultBehind("  ", "#lake 1;");
    }

    private static void eighthVoter() {
        Edge.of(9, "an 8th voter at its word");
        String seven = "lake 0;" + "voter 0 1 0;".repeat(7);
        reads(seven, 8);
        faultBehind(seven, "voter 0 1 0;");
        faultBehind(seven + " ", "voter");
        faultBehind(seven, "voter 9 9 9;");
        reads(seven + "cell 0 0;", 9);
    }

    private static void eighthPair() {
        Edge.of(9, "an 8th pair");
        faultBehind("lake 0;" + WEEK + " ", "2 2;");
        faultBehind("lake 0;" + WEEK + " ", "2");
        faultBehind("lake 0;" + WEEK + " ", "99;");
    }

    private static void stopWhereThereIsNone() {
        Edge.of(9, "; where there is none");
        String[] stands = {"", "lake", "lake 0;", "lake 0;cell", "lake 0;cell 1", "lake 0;week", "lake 0;week 1",
            "lake 0;week 1 1 1", "lake 0;voter", "lake 0;voter 1", "lake 0;voter 1 1", "lake 0;voter 1 1 1;"};
        for (String text : stands) {
            faultBehind(text, ";");
            faultBehind(text + " ", "; ");
        }
    }

    private static void runsOfFigures() {
        Edge.of(9, "a run of three figures or more (at its first one)");
        faultBehind("lake ", "000;");
        faultBehind("lake ", "012;");
        faultBehind("lake ", "0123456789;");
        faultBehind("lake", "123");
        faultBehind("lake 1;cell 1 2 ", "003;");
        faultBehind("lake 1;week 1 ", "001;");
        faultBehind("lake 1;voter 1 2 ", "003;");
        fault("1".repeat(150), 0);
        faultBehind("lake 1;" + " ".repeat(140), "111");
    }

    private static void numbersNotAsTold() {
        Edge.of(9, "a number not as told");
        faultBehind("lake 0;cell ", "06 0;");
        faultBehind("lake 0;cell ", "99 0;");
        faultBehind("lake 0;cell 0 0 ", "99;");
        faultBehind("lake 0;week ", "99 0;");
        faultBehind("lake 0;week 9 ", "11;");
        faultBehind("lake 0;voter 0 ", "00 0;");
        faultBehind("lake 0;voter 0 1 ", "30;");
        faultBehind("lake 0;", "1;");
        faultBehind("lake 0;voter 0 1 0 ", "1;");
    }

    private static void bytesThatBeginNone() {
        Edge.of(9, "a byte that begins none, too)");
        for (int c = 0; c <= 127; c++) {
            boolean begins = c == ' ' || c == ';' || c >= '0' && c <= '9' || c >= 'a' && c <= 'z';
            if (!begins) {
                faultBehind("lake 0;", (char) c + "");
                faultBehind("", (char) c + "lake 0;");
                faultBehind("lake ", (char) c + "0;");
                faultBehind("lake 0;cell 1 2", (char) c + ";");
            }
        }
    }

    private static void endsTooEarly() {
        Edge.of(9, "the TEXT's length, if it ends too early (an empty one, too)");
        String[] early = {"", " ", " ".repeat(150), "lake", "lake ", "lake 1", "lake 1 ", "lake 12", "lake 1;cell", "lake 1;cell 1",
            "lake 1;cell 1 1", "lake 1;cell 1 1 1", "lake 1;week", "lake 1;week 1", "lake 1;week 1 1", "lake 1;week 1 1 1",
            "lake 1;" + WEEK, "lake 1;voter", "lake 1;voter 1", "lake 1;voter 1 1", "lake 1;voter 1 1 1"};
        for (String text : early) {
            fault(text, text.length());
        }
        String most = "lake 1;cell 1" + " 1".repeat(68);
        fault(most + " ", 150);
        fault(most + "1", 150);
        reads(most + ";", 2);
    }

    private static void firstFault() {
        Edge.of(9, "the first byte of the first TOKEN that can not stand there");
        faultBehind("", "lakes 100;cell 9 9");
        faultBehind("lake ", "100;cell 9 9");
        faultBehind("lake 1;cell ", "9 99");
        faultBehind("lake 1;cell 1 ", "99");
        faultBehind("lake 1;", "#100");
        fault(";".repeat(150), 0);
        fault(" ".repeat(149) + ";", 149);
        fault(Lakes.padded("lake 1;", 149) + "c", 149);
    }

    private static void takesThePlace() {
        Edge.of(9, "(DAY 0, words 0, NOTES, VOTES none; nothing to undo)");
        IceVote x = Lakes.full();
        IceVote twin = Lakes.full();
        Edge.due("read()", Due.read(x, "lake 0;"), 1);
        int[] want = {0, 0, 0, 0, 0, 0, 7};
        for (int what = 0; what <= 6; what++) {
            Edge.due("count(" + what + ")", x.count(what), want[what]);
        }
        Edge.due("undo()", x.undo(), IceVote.NO);
        for (int d = 0; d < 7; d++) {
            Edge.due("weather(" + d + ", 0, 0)", x.weather(d, 0, 0), 0);
        }
        for (int w = 0; w < 4; w++) {
            Edge.due("ward(" + w + ", 0)", x.ward(w, 0), 0);
        }
        Edge.of(9, "takes the place of all but IMAGES, THE TEXT, THE FRACTION, STATUS");
        Edge.due("part(0)", x.part(0), 7);
        Edge.due("part(1)", x.part(1), 10);
        Edge.due("status(1)", x.status(1), 1);
        Due.read(twin, "lake 1;");
        for (int i = 0; i <= 1; i++) {
            Edge.due("from(" + i + ")", x.from(i) + twin.from(i), 2);
            Edge.due("digest() behind from(" + i + ")", x.digest(), twin.digest());
        }
    }

    private static void allStays() {
        Edge.of(9, "-10 less the FAULT: all stays");
        String[] faults = {"", "lake 0;cell 3 3 3 25;", "lake 0;week 1 1 1 1 1", "lake 0;voter 0 1 0;voter 6"};
        for (String text : faults) {
            IceVote x = Lakes.some();
            IceVote twin = Lakes.some();
            Due.read(x, text);
            twin.clear();
            for (char c : text.toCharArray()) {
                twin.type(c);
            }
            for (int what = 0; what <= 2; what++) {
                Edge.due("status(" + what + ") behind [" + text + "]", x.status(what), 0);
            }
            Edge.alike("behind read() of [" + text + "]", x, twin);
        }
    }
}
