/** Lakes that more than one test begins with. */
final class Lakes {
    /** All cells, as the items of a text and a set of cells tell them. */
    static final String EACH = "0 1 2 3 4 5 6 7 8 9 10 11 12 13 14 15 16 17 18 19 20 21 22 23 24";
    static final int ALL = (1 << 25) - 1;

    private Lakes() {
    }

    static IceVote of(int ice) {
        IceVote x = new IceVote();
        x.lake(ice);
        return x;
    }

    /** A text with blanks behind it, of so many bytes. */
    static String padded(String text, int bytes) {
        return text + " ".repeat(bytes - text.length());
    }

    /** Nothing of it is as at first, and there is room for one more of all. */
    static IceVote some() {
        IceVote x = new IceVote();
        makeSome(x);
        return x;
    }

    static void makeSome(IceVote x) {
        Due.isRead(x, "lake 20;cell 4 1;cell 5 24;week 3 1 9 9;voter 0 40 0;voter 3 50 1;voter 5 30 24;");
        for (int w = 0; w < 4; w++) {
            x.ward(w, 20 + w);
        }
        x.note(0, 20, 3, 1, 22);
        x.voted(0, 1, 40, 40, 3);
        x.thaw(0, 44, 1, 3);
        x.image(0);
        x.day(2);
        x.stone(7);
        x.image(1);
        x.tread(3, 99);
    }

    /** All is full: VOTERS, NOTES, VOTED, THE TEXT, what may be undone, IMAGES. */
    static IceVote full() {
        IceVote x = new IceVote();
        makeFull(x);
        return x;
    }

    static void makeFull(IceVote x) {
        StringBuilder text = new StringBuilder("lake 20;cell 4 1;week 3 1 9 9;");
        for (int v = 0; v < 7; v++) {
            text.append("voter ").append(v % 6).append(" 4").append(v).append(' ').append(v).append(';');
        }
        Due.isRead(x, padded(text.toString(), 150));
        for (int w = 0; w < 4; w++) {
            x.ward(w, 96 + w);
        }
        for (int i = 0; i < 6; i++) {
            x.note(i, 20, i, 0, 20 + i);
            x.voted(i, i % 2, 40, 40, i);
        }
        x.thaw(0, 44, 1, 3);
        x.image(0);
        for (int i = 0; i < 4; i++) {
            x.stone(i);
            x.day(1);
        }
        x.image(1);
    }

    /** Of this ICE, without WEATHER, on a DAY; what has gone by may be undone. */
    static IceVote onDay(int day, int ice) {
        IceVote x = of(ice);
        for (int left = day; left > 0; left -= 60) {
            x.day(Math.min(60, left));
        }
        return x;
    }
}
