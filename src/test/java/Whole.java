/** All that can be seen of an object but STATUS; it is used up by that. */
final class Whole {
    private Whole() {
    }

    static String of(IceVote x) {
        StringBuilder all = new StringBuilder();
        undoAll(x, all);
        for (int i = 0; i <= 1; i++) {
            all.append("from ").append(x.from(i)).append(' ');
            undoAll(x, all);
        }
        return all.append("read ").append(x.read()).append(' ').append(x.digest()).toString();
    }

    private static void undoAll(IceVote x, StringBuilder all) {
        all.append(x.digest()).append(' ');
        for (int i = 0; i <= 8; i++) {
            all.append("undo ").append(x.undo()).append(' ').append(x.digest()).append(' ');
        }
    }
}
