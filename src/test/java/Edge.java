import java.io.IOException;
import java.nio.file.Files;
import java.nio.file.Path;
import java.util.ArrayList;
import java.util.HashMap;
import java.util.List;
import java.util.Map;
import java.util.regex.Matcher;
import java.util.regex.Pattern;

/**
 * The boundary cases: each is told by the promise that it is of and by the document's own words, so
 * that it can be looked up which words of the document have a test.
 */
final class Edge {
    /** What names a boundary case in the document. */
    private static final Pattern NAMED = Pattern.compile("\\d+ \\.\\. \\d+|\\bat (most|least|first|999)\\b"
            + "|\\b(or|up to \\d|is|one|three figures or|\\d) (more|less)\\b|\\bbelow\\b|\\b(just|more than|-?10 less)\\b"
            + "|\\b(none|NONE|nobody|no KIND|no VOTERS|no set|not so many|BAD|NO|FULL)\\b(?! (as|is|FROST))"
            + "|\\b(cut|left over|too|alike|unlike|again|ended|empty|once|also|beyond|whatever|neither|may be)\\b"
            + "|\\bthe (least|first|most|fewest)\\b|\\bas they come\\b");
    private static final Pattern HEADING = Pattern.compile("^## (Terms|Promise (\\d+)).*$|^## .*$");

    private static final List<Edge> ALL = new ArrayList<>();

    private final int promise;
    private final String words;
    private int dues = 0;

    private Edge(int promise, String words) {
        this.promise = promise;
        this.words = words;
    }

    /** What is due from here on is due by these words, of the promise or of the terms. */
    static void of(int promise, String words) {
        ALL.add(new Edge(promise, words));
    }

    static void due(String call, long got, long want) {
        Due.due(last().named() + call, got, want);
        last().dues++;
    }

    /** Two of which nothing that can be seen is unlike; both are used up. */
    static void alike(String call, IceVote got, IceVote want) {
        String wanted = Whole.of(want);
        String seen = Whole.of(got);
        boolean same = seen.equals(wanted);
        Due.due(last().named() + call + (same ? "" : ", " + seen + " due " + wanted), same ? 1 : 0, 1);
        last().dues++;
    }

    private static Edge last() {
        return ALL.get(ALL.size() - 1);
    }

    private String named() {
        return "Promise " + promise + ", \"" + words + "\": ";
    }

    // ---- the document

    /**
     * Each case's words stand in the document, all words that name a case are some case's, and each
     * promise has one.
     */
    static void lookUp(Path document) throws IOException {
        Map<Integer, String> sections = sections(Files.readAllLines(document));
        Map<Integer, boolean[]> tested = new HashMap<>();
        sections.forEach((promise, text) -> tested.put(promise, new boolean[text.length()]));
        for (Edge edge : ALL) {
            Due.due(edge.named() + "answers", edge.dues > 0 ? 1 : 0, 1);
            int own = sections.getOrDefault(edge.promise, "").contains(edge.words) ? edge.promise : 0;
            String text = sections.get(own);
            int place = text.indexOf(edge.words);
            Due.due(edge.named() + "stands in the document once", place >= 0 && text.indexOf(edge.words, place + 1) < 0 ? 1 : 0, 1);
            for (int i = Math.max(0, place); place >= 0 && i < place + edge.words.length(); i++) {
                tested.get(own)[i] = true;
            }
        }
        sections.forEach((promise, text) -> allTested(promise, text, tested.get(promise)));
        for (int promise : sections.keySet()) {
            boolean has = promise == 0 || ALL.stream().anyMatch(edge -> edge.promise == promise);
            Due.due("Promise " + promise + " has a case", has ? 1 : 0, 1);
        }
        Due.due("sections of the document", sections.size(), 44);
    }

    private static void allTested(int promise, String text, boolean[] tested) {
        Matcher named = NAMED.matcher(text);
        while (named.find()) {
            boolean all = true;
            for (int i = named.start(); i < named.end(); i++) {
                all &= tested[i];
            }
            String about = text.substring(Math.max(0, named.start() - 40), Math.min(text.length(), named.end() + 20));
            Due.due((promise == 0 ? "Terms" : "Promise " + promise) + " \"..." + about + "...\" has a test", all ? 1 : 0, 1);
        }
    }

    /** The text of each promise, and of the terms (0). */
    private static Map<Integer, String> sections(List<String> lines) {
        Map<Integer, String> sections = new HashMap<>();
        int promise = -1;
        for (String line : lines) {
            Matcher heading = HEADING.matcher(line);
            if (heading.matches()) {
                promise = heading.group(1) == null ? -1 : heading.group(2) == null ? 0 : Integer.parseInt(heading.group(2));
            } else if (promise >= 0) {
                sections.merge(promise, line.strip(), (text, more) -> text + " " + more);
            }
        }
        return sections;
    }
}
