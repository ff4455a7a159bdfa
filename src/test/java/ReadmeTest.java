import java.io.IOException;
import java.nio.file.Files;
import java.nio.file.Path;
import java.util.regex.Matcher;
import java.util.regex.Pattern;

/** The examples of README.md: each call that stands there answers what stands beside it. */
public final class ReadmeTest {
    private static final Check check = new Check("ReadmeTest");
    private static final Pattern TEXT = Pattern.compile("A text like `([^`]*)`.*");
    private static final Pattern CALL = Pattern.compile("hues\\.(\\w+)\\(([^;]*|';')\\); +// (-?\\d+).*");

    public static void main(String[] args) throws IOException {
        boolean example = false;
        int examples = 0;
        HuesApart hues = null;
        for (String line : Files.readAllLines(Path.of("README.md"))) {
            if (line.startsWith("```")) {
                example = line.equals("```java");
                examples += example ? 1 : 0;
            } else if (example && line.equals("HuesApart hues = new HuesApart();")) {
                hues = new HuesApart();
            } else if (example) {
                one(hues, line);
            } else if (line.startsWith("A text like ")) {
                examples++;
                text(line);
            }
        }
        check.due("examples", examples, 4);
        check.end();
    }

    private static void one(HuesApart hues, String line) {
        Matcher m = CALL.matcher(line);
        check.due("'" + line + "' is a call with an answer", m.matches() ? 1 : 0, 1);
        if (m.matches()) {
            check.due(line, Caller.answer(hues, Caller.named(m.group(1)), Caller.numbers(m.group(2))), Long.parseLong(m.group(3)));
        }
    }

    /** Each ORDER of it is done, so each has its ; and none is refused. */
    private static void text(String line) {
        Matcher m = TEXT.matcher(line);
        check.due("'" + line + "' has a text", m.matches() ? 1 : 0, 1);
        if (m.matches()) {
            String text = m.group(1);
            check.due(text, new Hues().doText(text), text.length() - text.replace(";", "").length());
        }
    }
}
