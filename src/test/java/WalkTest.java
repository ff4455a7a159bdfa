import java.io.IOException;
import java.nio.file.Files;
import java.nio.file.Path;
import java.util.Set;
import java.util.TreeSet;
import java.util.regex.Matcher;
import java.util.regex.Pattern;

/** The document from its first line to its last: src/test/walk.txt has its sentences, calls, and answers. */
public final class WalkTest {
    private static final Check check = new Check("WalkTest");
    private static final Set<String> walked = new TreeSet<>();
    private static final Pattern CALL = Pattern.compile("(\\w+)\\(([^)]*)\\) = (-?\\d+)");

    public static void main(String[] args) throws IOException {
        HuesApart hues = null;
        String sentence = "";
        for (String line : Files.readAllLines(Path.of("src/test/walk.txt"))) {
            if (line.startsWith("# ")) {
                sentence = line.substring(2);
            } else if (line.equals("new")) {
                hues = new HuesApart();
            } else if (line.startsWith("text ")) {
                write(hues, line.substring(5));
            } else if (!line.isEmpty()) {
                one(hues, sentence, line);
            }
        }
        check.due("calls of the face that the walk has", walked.size(), Caller.face().size());
        check.end();
    }

    private static void write(HuesApart hues, String text) {
        hues.clear();
        for (int k = 0; k < text.length(); k++) {
            check.due("type", hues.type(text.charAt(k)), k + 1);
        }
    }

    private static void one(HuesApart hues, String sentence, String line) {
        Matcher m = CALL.matcher(line);
        if (!m.matches()) {
            throw new IllegalStateException("no call: " + line);
        }
        walked.add(m.group(1));
        long answer = Caller.answer(hues, Caller.named(m.group(1)), Caller.numbers(m.group(2)));
        check.due(sentence + " " + line, answer, Long.parseLong(m.group(3)));
    }
}
