import java.io.IOException;
import java.nio.file.Files;
import java.nio.file.Path;
import java.util.Arrays;
import java.util.regex.Matcher;
import java.util.regex.Pattern;

/** README.md says how to use the class: its examples are asked as they stand there, and no call is left out. */
public final class ReadmeTest {
    private static final Pattern BLOCK = Pattern.compile("(?s)```java\n(.*?)```");
    private static final Pattern CALL = Pattern.compile("x\\.(\\w+)\\(([-\\d, ]*)\\); +// (-?\\d+)(:.*)?");
    private static final Pattern TYPED =
            Pattern.compile("for \\(char c : \"(.*)\"\\.toCharArray\\(\\)\\) x\\.type\\(c\\);");
    private static final String FIRST = "ThriceCounted x = new ThriceCounted();";

    public static void main(String[] args) throws IOException {
        String page = Files.readString(Path.of("README.md"));
        Matcher block = BLOCK.matcher(page);
        int many = 0;
        while (block.find()) {
            askLines(block.group(1));
            many++;
        }
        Check.due("examples", many, 3);
        everyCallIsNamed(page);
        Check.finish("ReadmeTest");
    }

    private static void askLines(String example) {
        ThriceCounted x = new ThriceCounted();
        String[] lines = example.split("\n");
        Check.due("an example begins with a new object", lines[0].equals(FIRST) ? 1 : 0, 1);
        for (int i = 1; i < lines.length; i++) {
            askLine(x, lines[i]);
        }
    }

    /** A line that is neither form is told, so that none is passed over. */
    private static void askLine(ThriceCounted x, String line) {
        Matcher call = CALL.matcher(line);
        Matcher typed = TYPED.matcher(line);
        if (call.matches()) {
            Check.due(line, Calls.ask(x, call.group(1), numbers(call.group(2))), Long.parseLong(call.group(3)));
        } else {
            Check.due("a line that can be asked: " + line, typed.matches() ? 1 : 0, 1);
            if (typed.matches()) {
                Check.typeText(x, typed.group(1));
            }
        }
    }

    private static int[] numbers(String list) {
        if (list.isEmpty()) {
            return new int[0];
        }
        return Arrays.stream(list.split(", ")).mapToInt(Integer::parseInt).toArray();
    }

    private static void everyCallIsNamed(String page) throws IOException {
        String document = Files.readString(Path.of("../shared/DOC.md"));
        Matcher method = Pattern.compile("    public (?:int|long) (\\w+)\\(([^)]*)\\);").matcher(document);
        int many = 0;
        while (method.find()) {
            String call = "`" + method.group(1) + "(" + method.group(2).replaceAll("int ", "") + ")`";
            Check.due("named: " + call, page.contains(call) ? 1 : 0, 1);
            many++;
        }
        Check.due("calls of the document", many, 35);
    }
}
