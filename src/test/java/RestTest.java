/** Promises 38 to 43: the fraction, images, what was refused, how many there are, the digest. */
public final class RestTest {
    public static void main(String[] args) {
        part();
        image();
        imagesKeepAll();
        status();
        count();
        digestOfNew();
        digestOfAll();
        Due.end();
    }

    private static void part() {
        IceVote x = Due.told("lake 20;week 3 0;");
        Due.due("38: part(0) at first", x.part(0), 0);
        Due.due("38: part(1) at first", x.part(1), 1);
        x.thaw(0, 46, 1, 6);
        Due.due("38: part(0)", x.part(0), 2);
        Due.due("38: part(1)", x.part(1), 5);
        Due.due("38: part(2)", x.part(2), IceVote.BAD);
        Due.due("38: part(-1)", x.part(-1), IceVote.BAD);
        Due.due("38: status BAD", x.status(0), 2);
    }

    private static void image() {
        IceVote x = Due.told("lake 20;");
        Due.due("40: none was kept", x.from(0), IceVote.NO);
        Due.due("40: from(2)", x.from(2), IceVote.BAD);
        Due.due("40: from(-1)", x.from(-1), IceVote.BAD);
        Due.due("39: image(2)", x.image(2), IceVote.BAD);
        Due.due("39: image(-1)", x.image(-1), IceVote.BAD);
        Due.due("39: image(1)", x.image(1), 1);
        Due.due("40: 0 still is none", x.from(0), IceVote.NO);
        x.stone(0);
        Due.due("39: image(0)", x.image(0), 1);
        x.stone(1);
        Due.due("40: from(1)", x.from(1), 1);
        Due.due("40: ICE of image 1", x.count(2), 500);
        Due.due("40: from(0)", x.from(0), 1);
        Due.due("40: ICE of image 0", x.count(2), 490);
        x.lake(3);
        Due.due("40: image 0 again", x.from(0), 1);
        Due.due("40: ICE of image 0 again", x.count(2), 490);
        x.lake(3);
        x.image(0);
        x.lake(4);
        x.from(0);
        Due.due("39: kept anew", x.count(2), 75);
        Due.due("40: STATUS NO", x.status(1), 2);
        Due.due("40: STATUS BAD", x.status(0), 4);
    }

    private static void imagesKeepAll() {
        IceVote x = Due.told("lake 20;cell 4 1 2;week 5 1 2 3;voter 1 50 3;");
        x.ward(2, 77);
        x.note(1, 2, 3, 4, 5);
        x.voted(0, 1, 2, 3, 4);
        x.day(3);
        x.stone(7);
        x.thaw(0, 30, 2, 3);
        x.image(0);
        long kept = x.digest();
        x.lake(0);
        x.cell(3, 3);
        x.weather(5, 5, 5);
        x.ward(0, 5);
        x.voter(0, 9, 9);
        x.voter(0, 9, 9);
        x.note(0, 0, 0, 0, 0);
        x.note(0, 0, 0, 0, 0);
        x.voted(1, 0, 0, 0, 0);
        x.day(9);
        x.stone(1);
        x.from(0);
        Due.due("40: all is as it was kept", x.digest(), kept);
        Due.due("40: the stone may be undone", x.undo(), 3);
        Due.due("40: ICE of 7", x.of(7, 1), x.of(8, 1));
        Due.due("40: the days may be undone", x.undo(), 0);
        Due.due("40: ICE of all", x.count(2), 500);
        x.from(0);
        Due.due("39: the image keeps what may be undone", x.digest(), kept);
        x.thaw(0, 99, 2, 3);
        x.type(32);
        x.cell(9, 9);
        x.day(1);
        x.cell(3, 3);
        x.from(0);
        Due.due("40: THE FRACTION is not the image's", x.part(0), 0);
        Due.due("40: nor is THE TEXT", x.count(6), 46);
        Due.due("40: nor is STATUS", x.status(0), 1);
        Due.due("40: what may be undone is", x.count(5), 2);
    }

    private static void status() {
        IceVote x = new IceVote();
        Due.due("41: status(3)", x.status(3), -1);
        Due.due("41: status(-1)", x.status(-1), -1);
        Due.due("41: they count as BAD", x.status(0), 2);
        x.undo();
        x.from(1);
        x.undo();
        Due.due("41: NO", x.status(1), 3);
        for (int i = 0; i < 8; i++) {
            x.voter(0, 1, 0);
            x.note(0, 0, 0, 0, 0);
            x.voted(0, 0, 0, 0, 0);
        }
        Due.due("41: FULL", x.status(2), 5);
        x.path(0, 0, 0, 0);
        Due.due("41: -10 is BAD", x.status(0), 3);
        x.path(2, 0, 0, 0);
        x.lake(9);
        x.path(2, 0, 0, 1);
        x.read();
        x.when(0, 198);
        x.turn();
        Due.due("41: NONE, -5 and a FAULT are none of them", x.status(0) + x.status(1) + x.status(2), 11);
        x.image(0);
        x.from(0);
        x.lake(0);
        x.clear();
        Due.due("41: STATUS stays", x.status(0) + x.status(1) + x.status(2), 11);
    }

    private static void count() {
        IceVote x = Due.told("lake 20;voter 0 1 0;voter 0 1 0;");
        x.note(0, 0, 0, 0, 0);
        x.note(0, 0, 0, 0, 0);
        x.note(0, 0, 0, 0, 0);
        x.voted(0, 0, 0, 0, 0);
        x.day(5);
        x.stone(0);
        int[] want = {2, 5, 490, 3, 1, 2, 32};
        for (int what = 0; what <= 6; what++) {
            Due.due("42: count(" + what + ")", x.count(what), want[what]);
        }
        Due.due("42: count(7)", x.count(7), IceVote.BAD);
        Due.due("42: count(-1)", x.count(-1), IceVote.BAD);
    }

    private static void digestOfNew() {
        long h = Due.folded(1453, new long[7 + 50 + 14 + 4]);
        Due.due("43: of a new one", new IceVote().digest(), Due.folded(h, 0, 1));
    }

    private static void digestOfAll() {
        IceVote x = Due.told("lake 20;cell 4 24;week 5 1 2 3;voter 1 50 3;voter 2 60 4;");
        x.ward(2, 77);
        x.ward(3, 7);
        x.note(1, 2, 3, 4, 5);
        x.note(6, 7, 8, 9, 10);
        x.voted(1, 1, 11, 12, 9);
        x.voted(0, 0, 13, 14, 8);
        x.stone(24);
        x.stone(23);
        x.day(1);
        x.thaw(0, 48, 1, 6);
        // A day of 5 and 1: 4 more; the mouth's 10 grows by 2 and melts by 2.
        long h = Due.folded(1453, 2, 1, 23 * 24 + 14 + 10, 2, 2, 3, 57);
        for (int c = 0; c < 23; c++) {
            h = Due.folded(h, 0, 24);
        }
        h = Due.folded(h, 0, 14, 4, 10);
        h = Due.folded(h, 5, 1, 2, 3, 0, 0, 0, 0, 0, 0, 0, 0, 0, 0);
        h = Due.folded(h, 0, 0, 77, 7);
        h = Due.folded(h, 1, 50, 3, 2, 60, 4);
        h = Due.folded(h, 1, 2, 3, 4, 5, 6, 7, 8, 9, 10);
        h = Due.folded(h, 1, 1, 11, 12, 9, 0, 0, 13, 14, 8);
        Due.due("43: of all", x.digest(), Due.folded(h, 0, 1));
        x.thaw(0, 46, 1, 3);
        Due.due("43: THE FRACTION, 24 + 2 - 3 by frost of 2", x.digest(), Due.folded(h, 7, 10));
    }
}
