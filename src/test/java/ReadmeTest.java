import java.io.IOException;
import java.nio.file.Files;
import java.nio.file.Path;
import java.util.regex.Matcher;
import java.util.regex.Pattern;

/** The example of README.md, run from the file itself: what a line is said to answer, it has to answer. */
public final class ReadmeTest {
    private static final String FIRST = "QueueDisk x = new QueueDisk(128);";
    private static final String START = "long start = 1L << 31;";
    private static final Pattern CALL = Pattern.compile("x\\.(\\w+)\\((.*)\\); *(?:// (?:(true|false|\\d+):)?.*)?");
    private static final int FEWEST_ANSWERS = 8;

    private static int told = 0;

    public static void main(String[] args) throws IOException {
        String text = Files.readString(Path.of("README.md"));
        String[] parts = text.split("```java\n|```sh\n|```\n");
        Check.same("README.md has an example", parts.length > 1, true);
        if (parts.length > 1) {
            runExample(parts[1].split("\n"));
        }
        Check.same("README.md says how its tests are run", text.contains("```sh\n.ci/run\n```"), true);
        Check.end();
    }

    private static void runExample(String[] lines) {
        Check.same("first line: " + lines[0], lines[0].startsWith(FIRST), true);
        Check.same("second line: " + lines[1], lines[1].startsWith(START), true);
        Device x = new Device(128);
        for (int k = 2; k < lines.length; k++) {
            if (!lines[k].isEmpty()) {
                runLine(x, lines[k]);
            }
        }
        Check.same("answers are told", told >= FEWEST_ANSWERS, true);
    }

    private static void runLine(Device x, String line) {
        Matcher m = CALL.matcher(line);
        if (!m.matches()) {
            Check.same("is a call: " + line, false, true);
            return;
        }
        String[] words = m.group(2).split(",");
        long answer = call(x, m.group(1), words);
        if (m.group(3) != null) {
            told++;
            Check.same(line, answer, due(m.group(3)));
        }
    }

    private static long call(Device x, String name, String[] words) {
        switch (name) {
            case "setDisk":
                x.setDisk((int) value(words[0]), (int) value(words[1]));
                return 0;
            case "write":
                x.write((int) value(words[0]), (int) value(words[1]));
                return 0;
            case "store":
                x.store(value(words[0]), (int) value(words[1]), value(words[2]));
                return 0;
            case "load":
                return x.load(value(words[0]), (int) value(words[1]));
            case "read":
                return x.read((int) value(words[0]));
            case "line":
                return x.line() ? 1 : 0;
            default:
                Check.same("is a call of the example: " + name, false, true);
                return 0;
        }
    }

    private static long due(String word) {
        if (word.equals("true") || word.equals("false")) {
            return word.equals("true") ? 1 : 0;
        }
        return Long.parseLong(word);
    }

    /** A sum of products, as the example writes them. */
    private static long value(String text) {
        long sum = 0;
        for (String term : text.replace("(int)", "").replaceAll("[() ]", "").split("\\+")) {
            long product = 1;
            for (String factor : term.split("\\*")) {
                product *= factor.equals("start") ? Machine.START : Long.decode(factor);
            }
            sum += product;
        }
        return sum;
    }
}
