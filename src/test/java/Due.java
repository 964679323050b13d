/** What the tests share: the answers that are due, counted, and lakes told by a text. */
final class Due {
    private static int checked = 0;
    private static int wrong = 0;

    private Due() {
    }

    static void due(String what, long got, long want) {
        checked++;
        if (got != want) {
            wrong++;
            System.out.println(what + " answered " + got + ", due is " + want);
        }
    }

    static int wrong() {
        return wrong;
    }

    /** Ends the test: with exit code 1 if an answer was not the one that is due. */
    static void end() {
        System.out.println(checked + " answers, " + wrong + " of them not as due");
        if (wrong != 0 || checked == 0) {
            System.exit(1);
        }
    }

    static int read(IceVote x, String text) {
        x.clear();
        for (char c : text.toCharArray()) {
            x.type(c);
        }
        return x.read();
    }

    static IceVote told(String text) {
        IceVote x = new IceVote();
        isRead(x, text);
        return x;
    }

    static void isRead(IceVote x, String text) {
        due("read of " + text, read(x, text) > 0 ? 1 : 0, 1);
    }

    /** As the digest folds what it is of. */
    static long folded(long h, long... values) {
        long all = h;
        for (long v : values) {
            all = 31 * all + v;
        }
        return all;
    }

    static int bits(int... numbers) {
        int bits = 0;
        for (int n : numbers) {
            bits |= 1 << n;
        }
        return bits;
    }
}
