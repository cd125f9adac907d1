import java.io.IOException;
import java.lang.reflect.Method;
import java.lang.reflect.Modifier;
import java.nio.file.Files;
import java.nio.file.Path;
import java.util.regex.Matcher;
import java.util.regex.Pattern;

/** README.md's example answers what it says there, and every call of the face stands in its table. */
public final class ReadmeTest {
    private static final Pattern LINE = Pattern.compile("x\\.(\\w+)\\((.*)\\); +// (-?\\d+):.*");

    public static void main(String[] args) throws IOException {
        Check check = new Check("ReadmeTest");
        String text = Files.readString(Path.of("README.md"));
        playExample(check, text);
        for (Method each : CryOrder.class.getDeclaredMethods()) {
            if (Modifier.isPublic(each.getModifiers())) {
                check.due("README.md has a row for " + each.getName(),
                        text.contains("| `" + each.getName() + "("), true);
            }
        }
        check.end();
    }

    private static void playExample(Check check, String text) {
        CryOrder x = new CryOrder();
        int played = 0;
        Matcher line = LINE.matcher(text);
        while (line.find()) {
            Call call = new Call(line.group(1), numbers(line.group(2)));
            check.due("README.md's example: " + call, call.on(x), Integer.parseInt(line.group(3)));
            played++;
        }
        check.due("calls in README.md's example", played, 12);
    }

    private static int[] numbers(String args) {
        String[] words = args.split(", ");
        int[] numbers = new int[words.length];
        for (int i = 0; i < words.length; i++) {
            numbers[i] = switch (words[i]) {
                case "true" -> 1;
                case "false" -> 0;
                case "CryOrder.NONE" -> CryOrder.NONE;
                default -> Integer.parseInt(words[i]);
            };
        }
        return numbers;
    }
}
