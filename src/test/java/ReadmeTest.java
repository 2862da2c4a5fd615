import java.io.IOException;
import java.nio.file.Files;
import java.nio.file.Path;
import java.util.regex.Matcher;
import java.util.regex.Pattern;

/** The run that README.md tells is made, and each call must answer what is told behind it. */
public final class ReadmeTest {
    private static final Pattern CALL = Pattern.compile(
            "volume\\.(\\w+)\\(([-\\d, ]*)\\); +// (-?\\d+|true|false)(: .*)?");
    private static final Check check = new Check("README.md");

    public static void main(String[] args) throws IOException {
        TwinVolume volume = null;
        int calls = 0;
        for (String line : Files.readAllLines(Path.of("README.md"))) {
            if (line.equals("TwinVolume volume = new TwinVolume();")) {
                volume = new TwinVolume();
            } else if (line.startsWith("volume.")) {
                call(volume, line);
                calls++;
            }
        }
        check.due("there is a run", calls > 0, true);
        check.end();
    }

    private static void call(TwinVolume volume, String line) {
        Matcher parts = CALL.matcher(line);
        boolean plain = volume != null && parts.matches();
        check.due("\"" + line + "\" is a call with its answer", plain, true);
        if (plain) {
            check.due(line, Calls.real(volume, parts.group(1), numbers(parts.group(2))), answer(parts.group(3)));
        }
    }

    private static int[] numbers(String text) {
        String[] words = text.isEmpty() ? new String[0] : text.split(", ");
        int[] numbers = new int[words.length];
        for (int k = 0; k < words.length; k++) {
            numbers[k] = Integer.parseInt(words[k]);
        }
        return numbers;
    }

    private static long answer(String text) {
        return switch (text) {
            case "true" -> 1;
            case "false" -> 0;
            default -> Long.parseLong(text);
        };
    }
}
