import java.io.IOException;
import java.nio.file.Files;
import java.nio.file.Path;
import java.util.regex.Matcher;
import java.util.regex.Pattern;

/** Makes the calls that README.md shows, in its order, so that what it says stays so. */
public final class ReadmeTest {
    private static final Pattern LETTERS = Pattern.compile("for \\(char c : \"([^\"]*)\"\\.toCharArray\\(\\)\\) \\{");
    private static final Pattern CALL = Pattern.compile("x\\.(\\w+)\\(([-\\d, ]*)\\); +// (-?\\d+)(:.*)?");
    /** Fewer would tell that the page is read wrongly, or has lost its calls. */
    private static final int LEAST_CALLS = 24;

    public static void main(String[] args) throws IOException {
        Trial x = new Trial("README.md");
        boolean inCode = false;
        int calls = 0;
        for (String line : Files.readAllLines(Path.of("README.md"))) {
            if (line.startsWith("```")) {
                inCode = line.equals("```java");
            } else if (inCode) {
                calls += follow(x, line.trim());
            }
        }
        if (calls < LEAST_CALLS) {
            x.fault("only " + calls + " calls were found");
        }
        Trial.end("ReadmeTest");
    }

    /** What a line of code asks for is asked: how many calls with an answer behind them. */
    private static int follow(Trial x, String line) {
        Matcher letters = LETTERS.matcher(line);
        if (letters.matches()) {
            x.letters(letters.group(1));
            return 0;
        }
        Matcher call = CALL.matcher(line);
        if (!call.matches()) {
            boolean known = line.equals("NineMinutesMore x = new NineMinutesMore();")
                || line.equals("x.letter(c);") || line.equals("}");
            if (!known) {
                x.fault("not understood: " + line);
            }
            return 0;
        }
        x.due(Integer.parseInt(call.group(3)), call.group(1), numbers(call.group(2)));
        return 1;
    }

    private static int[] numbers(String list) {
        String[] parts = list.isBlank() ? new String[0] : list.split(",");
        int[] numbers = new int[parts.length];
        for (int i = 0; i < parts.length; i++) {
            numbers[i] = Integer.parseInt(parts[i].trim());
        }
        return numbers;
    }
}
