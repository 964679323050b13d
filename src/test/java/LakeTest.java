/** Promises 1 to 9: a new object, and what makes a lake. */
public final class LakeTest {
    public static void main(String[] args) {
        newObject();
        lake();
        cell();
        weather();
        ward();
        voter();
        type();
        clear();
        readWhole();
        readBlanks();
        readTakesThePlace();
        readFaults();
        Due.end();
    }

    private static void newObject() {
        IceVote x = new IceVote();
        for (int what = 0; what <= 6; what++) {
            Due.due("1: count(" + what + ")", x.count(what), 0);
        }
        for (int what = 0; what <= 2; what++) {
            Due.due("1: status(" + what + ")", x.status(what), 0);
            Due.due("1: of(24, " + what + ")", x.of(24, what), 0);
        }
        Due.due("1: part(0)", x.part(0), 0);
        Due.due("1: part(1)", x.part(1), 1);
        Due.due("1: undo()", x.undo(), IceVote.NO);
        Due.due("1: from(0)", x.from(0), IceVote.NO);
        Due.due("1: from(1)", x.from(1), IceVote.NO);
        Due.due("1: about(0, 0)", x.about(0, 0), IceVote.BAD);
        for (int d = 0; d < 7; d++) {
            Due.due("1: weather(" + d + ", 0, 0)", x.weather(d, 0, 0), 0);
        }
        for (int w = 0; w < 4; w++) {
            Due.due("1: ward(" + w + ", 0)", x.ward(w, 0), 0);
        }
    }

    private static void lake() {
        IceVote x = Due.told("lake 12;cell 4 1 2;week 5 1;voter 1 50 3;voter 2 60 4;");
        x.ward(2, 77);
        x.note(0, 1, 2, 3, 4);
        x.voted(0, 1, 2, 3, 4);
        x.image(1);
        x.thaw(0, 1, 1, 5);
        x.day(3);
        Due.due("2: lake(100)", x.lake(100), IceVote.BAD);
        Due.due("2: lake(-1)", x.lake(-1), IceVote.BAD);
        Due.due("2: count(0) behind a refused one", x.count(0), 2);
        Due.due("2: lake(99)", x.lake(99), 2);
        Due.due("2: lake(7)", x.lake(7), 0);
        Due.due("2: VOTERS", x.count(0), 0);
        Due.due("2: the DAY", x.count(1), 0);
        Due.due("2: ICE of all", x.count(2), 175);
        Due.due("2: NOTES", x.count(3), 0);
        Due.due("2: VOTED", x.count(4), 0);
        Due.due("2: undone", x.count(5), 0);
        Due.due("2: THE TEXT", x.count(6), 54);
        Due.due("2: KIND", x.of(1, 0), 0);
        Due.due("2: word", x.ward(2, 0), 0);
        Due.due("2: WEATHER", x.weather(0, 0, 0), 0);
        Due.due("2: THE FRACTION", x.part(0), 1);
        Due.due("2: STATUS", x.status(0), 2);
        Due.due("2: IMAGE 1", x.from(1), 1);
        Due.due("2: IMAGE 1's word", x.ward(2, 0), 77);
        Due.due("2: lake(0)", x.lake(0), 2);
    }

    private static void cell() {
        IceVote x = new IceVote();
        Due.due("3: cell(24, 5)", x.cell(24, 5), 0);
        Due.due("3: cell(24, 1)", x.cell(24, 1), 5);
        Due.due("3: of(24, 0)", x.of(24, 0), 1);
        Due.due("3: of(23, 0)", x.of(23, 0), 0);
        Due.due("3: cell(0, 3)", x.cell(0, 3), 0);
        Due.due("3: cell(-1, 0)", x.cell(-1, 0), IceVote.BAD);
        Due.due("3: cell(25, 0)", x.cell(25, 0), IceVote.BAD);
        Due.due("3: cell(0, 6)", x.cell(0, 6), IceVote.BAD);
        Due.due("3: cell(0, -1)", x.cell(0, -1), IceVote.BAD);
        Due.due("3: of(0, 0)", x.of(0, 0), 3);
    }

    private static void weather() {
        IceVote x = new IceVote();
        Due.due("4: weather(6, 9, 4)", x.weather(6, 9, 4), 0);
        Due.due("4: weather(6, 0, 9)", x.weather(6, 0, 9), 94);
        Due.due("4: weather(6, 1, 1)", x.weather(6, 1, 1), 9);
        Due.due("4: weather(0, 2, 3)", x.weather(0, 2, 3), 0);
        Due.due("4: weather(7, 0, 0)", x.weather(7, 0, 0), IceVote.BAD);
        Due.due("4: weather(-1, 0, 0)", x.weather(-1, 0, 0), IceVote.BAD);
        Due.due("4: weather(0, 10, 0)", x.weather(0, 10, 0), IceVote.BAD);
        Due.due("4: weather(0, -1, 0)", x.weather(0, -1, 0), IceVote.BAD);
        Due.due("4: weather(0, 0, 10)", x.weather(0, 0, 10), IceVote.BAD);
        Due.due("4: weather(0, 0, -1)", x.weather(0, 0, -1), IceVote.BAD);
        Due.due("4: weather(0, 0, 0)", x.weather(0, 0, 0), 23);
    }

    private static void ward() {
        IceVote x = new IceVote();
        Due.due("5: ward(3, 99)", x.ward(3, 99), 0);
        Due.due("5: ward(3, 5)", x.ward(3, 5), 99);
        Due.due("5: ward(0, 1)", x.ward(0, 1), 0);
        Due.due("5: ward(4, 0)", x.ward(4, 0), IceVote.BAD);
        Due.due("5: ward(-1, 0)", x.ward(-1, 0), IceVote.BAD);
        Due.due("5: ward(0, 100)", x.ward(0, 100), IceVote.BAD);
        Due.due("5: ward(0, -1)", x.ward(0, -1), IceVote.BAD);
        Due.due("5: ward(0, 0)", x.ward(0, 0), 1);
        Due.due("5: ward(3, 0)", x.ward(3, 0), 5);
    }

    private static void voter() {
        IceVote x = new IceVote();
        for (int v = 0; v < 7; v++) {
            Due.due("6: voter " + v, x.voter(v % 6, 1 + 14 * v, 4 * v), v);
        }
        Due.due("6: an 8th", x.voter(0, 1, 0), IceVote.FULL);
        Due.due("6: BAD ahead of FULL", x.voter(6, 1, 0), IceVote.BAD);
        Due.due("6: KIND -1", x.voter(-1, 1, 0), IceVote.BAD);
        Due.due("6: WEIGHT 0", x.voter(0, 0, 0), IceVote.BAD);
        Due.due("6: WEIGHT 100", x.voter(0, 100, 0), IceVote.BAD);
        Due.due("6: CELL 25", x.voter(0, 1, 25), IceVote.BAD);
        Due.due("6: CELL -1", x.voter(0, 1, -1), IceVote.BAD);
        Due.due("6: status FULL", x.status(2), 1);
        Due.due("6: status BAD", x.status(0), 6);
        Due.due("6: about(6, 1)", x.about(6, 1), 85);
    }

    private static void type() {
        IceVote x = new IceVote();
        Due.due("7: type(-1)", x.type(-1), IceVote.BAD);
        Due.due("7: type(128)", x.type(128), IceVote.BAD);
        for (int i = 1; i <= 150; i++) {
            Due.due("7: type", x.type(i % 2 == 0 ? 0 : 127), i);
        }
        Due.due("7: the 151st", x.type(32), IceVote.FULL);
        Due.due("7: BAD ahead of FULL", x.type(128), IceVote.BAD);
        Due.due("7: count(6)", x.count(6), 150);
        Due.due("7: status FULL", x.status(2), 1);
    }

    private static void clear() {
        IceVote x = Due.told("lake 1;");
        Due.due("8: clear()", x.clear(), 7);
        Due.due("8: clear() again", x.clear(), 0);
        Due.due("8: count(6)", x.count(6), 0);
        Due.due("8: the lake stays", x.count(2), 25);
        Due.due("8: read()", x.read(), -10);
        Due.due("8: type", x.type(59), 1);
    }

    private static void readWhole() {
        IceVote x = new IceVote();
        Due.due("9: all ITEMS", Due.read(x, "lake 99;cell 5 0 24 0;week 9 0 0 9;voter 5 99 24;cell 1 0;week 1 2;"), 6);
        Due.due("9: the cell told last", x.of(0, 0), 1);
        Due.due("9: of(24, 0)", x.of(24, 0), 5);
        Due.due("9: of(24, 1)", x.of(24, 1), 99);
        Due.due("9: weather of day 0, told last", x.weather(0, 0, 0), 12);
        Due.due("9: weather of day 1, told first", x.weather(1, 0, 0), 9);
        Due.due("9: voter's KIND", x.about(0, 0), 5);
        Due.due("9: voter's WEIGHT", x.about(0, 1), 99);
        Due.due("9: voter's CELL", x.about(0, 2), 24);
        Due.due("9: a whole week", Due.read(x, "lake 0;week 1 2 3 4 5 6 7 8 9 0 0 1 2 3;"), 2);
        Due.due("9: weather of day 6", x.weather(6, 0, 0), 23);
        Due.due("9: weather of day 4", x.weather(4, 0, 0), 90);
        StringBuilder voters = new StringBuilder("lake 0;");
        for (int v = 0; v < 7; v++) {
            voters.append("voter 0 1 ").append(v).append(';');
        }
        Due.due("9: seven voters", Due.read(x, voters.toString()), 8);
        Due.due("9: count(0)", x.count(0), 7);
        Due.due("9: an 8th voter", Due.read(x, voters + " voter 9"), -10 - voters.length() - 1);
        Due.due("9: THE TEXT stays", x.count(6), voters.length() + 8);
        StringBuilder cells = new StringBuilder("lake 5;cell 3");
        while (cells.length() < 149) {
            cells.append(" 4");
        }
        Due.due("9: 150 bytes", Due.read(x, cells + ";"), 2);
        Due.due("9: count(6)", x.count(6), 150);
        Due.due("9: of(4, 0)", x.of(4, 0), 3);
    }

    private static void readBlanks() {
        IceVote x = new IceVote();
        Due.due("9: blanks all about", Due.read(x, "  lake   07  ;  cell 0  1 ; "), 2);
        Due.due("9: of(0, 1)", x.of(0, 1), 7);
        Due.due("9: no blanks", Due.read(x, "lake12;cell1 2;week3 4;voter5 6 7;"), 4);
        Due.due("9: of(2, 0)", x.of(2, 0), 1);
        Due.due("9: about(0, 1)", x.about(0, 1), 6);
        Due.due("9: 00 and 09", Due.read(x, "lake 00;week 09 00;"), 2);
        Due.due("9: weather", x.weather(0, 0, 0), 90);
    }

    private static void readTakesThePlace() {
        IceVote x = Due.told("lake 12;cell 4 1 2;week 5 1 5 1;voter 1 50 3;");
        x.ward(2, 77);
        x.note(0, 1, 2, 3, 4);
        x.voted(0, 1, 2, 3, 4);
        x.image(0);
        x.thaw(0, 1, 1, 5);
        x.day(3);
        x.cell(99, 0);
        x.clear();
        for (char c : "lake 3;cell 1 1;week 1 1;voter 1 1 1;cel".toCharArray()) {
            x.type(c);
        }
        long before = x.digest();
        Due.due("9: a fault", x.read(), -10 - 37);
        Due.due("9: behind a fault all stays", x.digest(), before);
        Due.due("9: lake 3;", Due.read(x, "lake 3;"), 1);
        for (int what = 0; what <= 6; what++) {
            Due.due("9: count(" + what + ")", x.count(what), what == 2 ? 75 : what == 6 ? 7 : 0);
        }
        Due.due("9: nothing to undo", x.undo(), IceVote.NO);
        Due.due("9: word", x.ward(2, 0), 0);
        Due.due("9: WEATHER", x.weather(1, 0, 0), 0);
        Due.due("9: KIND", x.of(1, 0), 0);
        Due.due("9: THE FRACTION", x.part(0), 1);
        Due.due("9: STATUS", x.status(0), 1);
        Due.due("9: IMAGES", x.from(0), 1);
        Due.due("9: IMAGES' voter", x.count(0), 1);
    }

    private static void fault(String text, int place) {
        IceVote x = Due.told("lake 4;voter 1 2 3;");
        x.day(1);
        Due.due("9: " + text, Due.read(x, text), -10 - place);
        Due.due("9: the lake stays behind " + text, x.count(0) + x.count(2) + x.count(5), 102);
        Due.due("9: no refusal", x.status(0) + x.status(1) + x.status(2), 0);
    }

    private static void readFaults() {
        fault("", 0);
        fault("   ", 3);
        fault("lake", 4);
        fault("lake ", 5);
        fault("lake 4", 6);
        fault("lake 4 ", 7);
        fault("lak", 0);
        fault(" lakes 4;", 1);
        fault("Lake 4;", 0);
        fault("bake 4;", 0);
        fault("lake 4;sell 1 1;", 7);
        fault("lake 4;peek 1 1;", 7);
        fault("lake 4;boter 1 1 1;", 7);
        fault("lake 4;vote 1 1 1;", 7);
        fault(";".repeat(150), 0);
        fault("lake 4;" + " ".repeat(142) + "c", 149);
        fault("lakelake 4;", 0);
        fault("cell 0 1;lake 4;", 0);
        fault(";lake 4;", 0);
        fault("4 lake;", 0);
        fault("lake ;", 5);
        fault("lake lake 4;", 5);
        fault("lake -4;", 5);
        fault("lake 100;", 5);
        fault("lake 004;", 5);
        fault("lake 4 5;", 7);
        fault("lake 4,", 6);
        fault("lake 4;;", 7);
        fault("lake 4; lake 4;", 8);
        fault("lake 4;5;", 7);
        fault("lake 4;cell;", 11);
        fault("lake 4;cell 1;", 13);
        fault("lake 4;cell 6 1;", 12);
        fault("lake 4;cell 1 25;", 14);
        fault("lake 4;cell 1 2 024;", 16);
        fault("lake 4;cell 1 2 week 1 1;", 16);
        fault("lake 4;cell 1 2", 15);
        fault("lake 4;cell plain 2;", 12);
        fault("lake 4;week;", 11);
        fault("lake 4;week 1;", 13);
        fault("lake 4;week 10 1;", 12);
        fault("lake 4;week 1 10;", 14);
        fault("lake 4;week 1 1 9", 17);
        fault("lake 4;week 1 2 3 4 5 6 7 8 9 0 0 1 2 3 4 5;", 40);
        fault("lake 4;week 1 2 3 4 5 6 7 8 9 0 0 1 2 3 voter", 40);
        fault("lake 4;voter;", 12);
        fault("lake 4;voter 6 1 1;", 13);
        fault("lake 4;voter 1 0 1;", 15);
        fault("lake 4;voter 1 100 1;", 15);
        fault("lake 4;voter 1 99 25;", 18);
        fault("lake 4;voter 1 99 ;", 18);
        fault("lake 4;voter 1 99 2 4;", 20);
        fault("lake 4;voters 1 99 2;", 7);
        fault("lake 4;\t", 7);
        fault("lake 4;weekA", 11);
        fault("lake 4;#", 7);
    }
}
