import java.io.IOException;
import java.nio.file.Files;
import java.nio.file.Path;
import java.util.Arrays;
import java.util.regex.Matcher;
import java.util.regex.Pattern;

/** What the README (its third argument) tells: the example's answers, and a word on each call. */
public final class ReadmeTest {
    private static final Pattern TEXT = Pattern.compile("\"(lake [^\"]*)\"");
    private static final Pattern LINE = Pattern.compile("x\\.(\\w+)\\(([-0-9, ]*)\\); +// (-?\\d+)");

    public static void main(String[] args) throws IOException {
        if (args.length < 3) {
            System.out.println("the README is told by the third argument");
            System.exit(1);
        }
        String readme = Files.readString(Path.of(args[2]));
        example(readme);
        for (Calls call : Calls.values()) {
            Due.due("a word on `" + call.call + "`", readme.contains("`" + call.call + "`") ? 1 : 0, 1);
        }
        Due.end();
    }

    private static void example(String readme) {
        IceVote x = new IceVote();
        Matcher text = TEXT.matcher(readme);
        Due.due("the example's text", text.find() ? 1 : 0, 1);
        for (char c : text.group(1).toCharArray()) {
            x.type(c);
        }
        int lines = 0;
        Matcher line = LINE.matcher(readme);
        while (line.find()) {
            Calls call = Calls.valueOf(line.group(1).toUpperCase());
            String[] told = line.group(2).isBlank() ? new String[0] : line.group(2).split(", ");
            int[] numbers = Arrays.stream(told).mapToInt(Integer::parseInt).toArray();
            Due.due(call.told(numbers), call.on(x, numbers), Long.parseLong(line.group(3)));
            lines++;
        }
        Due.due("lines of the example", lines, 8);
    }
}
