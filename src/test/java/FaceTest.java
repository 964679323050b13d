import java.io.IOException;
import java.nio.file.Files;
import java.nio.file.Path;
import java.util.ArrayList;
import java.util.List;
import java.util.regex.Matcher;
import java.util.regex.Pattern;

/** The document's face (its second argument) beside the source's (its first): each line, in its order. */
public final class FaceTest {
    private static final Pattern BLOCK = Pattern.compile("(?s)```java\n(.*?)```");
    private static final Pattern PUBLIC = Pattern.compile("(?m)^    (public [^;{]*?)(?: \\{|;)$");
    private static final Pattern GROUP = Pattern.compile("Ahead of the calls (.*) the interface says: (---- .*)\\.");
    private static final Pattern NAME = Pattern.compile("(\\w+)\\(|// (---- [a-z ]+)$", Pattern.MULTILINE);

    public static void main(String[] args) throws IOException {
        if (args.length < 2) {
            System.out.println("the source and the document are told by two arguments");
            System.exit(1);
        }
        String source = Files.readString(Path.of(args[0]));
        String document = Files.readString(Path.of(args[1]));
        Matcher block = BLOCK.matcher(document);
        Due.due("the document has a face", block.find() ? 1 : 0, 1);
        alike("public lines", publics(source), publics(block.group(1)));
        alike("groups of calls", groups(source), groupsTold(document));
        constants();
        Due.end();
    }

    private static void alike(String what, List<String> got, List<String> want) {
        for (int i = 0; i < Math.max(got.size(), want.size()); i++) {
            String one = i < got.size() ? got.get(i) : "none";
            String due = i < want.size() ? want.get(i) : "none";
            Due.due(what + ": [" + one + "] due is [" + due + "]", one.equals(due) ? 1 : 0, 1);
        }
    }

    private static List<String> publics(String text) {
        List<String> publics = new ArrayList<>();
        Matcher line = PUBLIC.matcher(text);
        while (line.find()) {
            publics.add(line.group(1));
        }
        return publics;
    }

    /** The headings and the calls as they come: in the source, headings are comments of a line. */
    private static List<String> groups(String source) {
        List<String> groups = new ArrayList<>();
        for (String line : source.split("\n")) {
            Matcher name = NAME.matcher(line);
            boolean isPublic = line.startsWith("    public ") && !line.contains("IceVote(");
            if ((isPublic || line.startsWith("    // ----")) && name.find()) {
                groups.add(isPublic ? name.group(1) : name.group(2));
            }
        }
        // Behind the last call stand the groups of what is private.
        while (!groups.isEmpty() && groups.get(groups.size() - 1).startsWith("----")) {
            groups.remove(groups.size() - 1);
        }
        return groups;
    }

    private static List<String> groupsTold(String document) {
        List<String> groups = new ArrayList<>();
        Matcher group = GROUP.matcher(document);
        while (group.find()) {
            groups.add(group.group(2));
            Matcher call = Pattern.compile("`(\\w+)`").matcher(group.group(1));
            while (call.find()) {
                groups.add(call.group(1));
            }
        }
        Due.due("groups and calls told", groups.size(), 5 + Calls.values().length);
        return groups;
    }

    private static void constants() {
        Due.due("NONE", IceVote.NONE, -1);
        Due.due("BAD", IceVote.BAD, -2);
        Due.due("NO", IceVote.NO, -3);
        Due.due("FULL", IceVote.FULL, -4);
    }
}
