import java.io.IOException;
import java.nio.file.Files;
import java.nio.file.Path;
import java.util.regex.Matcher;
import java.util.regex.Pattern;

/** The calls that README.md shows answer what it says, so that it does not grow old. */
final class ReadmeTest extends Play {
    private static final Pattern NEW = Pattern.compile("ToyGreeting x = new ToyGreeting\\(\\);");
    private static final Pattern TYPED = Pattern.compile("for \\(char c : \"(.*)\"\\.toCharArray\\(\\)\\) x\\.type\\(c\\);");
    private static final Pattern CALL = Pattern.compile("x\\.([a-z]+)\\(([-0-9, ]*)\\); +// (-?[0-9]+)(:.*)?");

    private ToyGreeting x;

    public static void main(String[] args) throws IOException {
        name("the calls in README.md");
        new ReadmeTest().follow(Files.readString(Path.of("README.md")));
        end("ReadmeTest");
    }

    private void follow(String text) {
        Matcher block = Pattern.compile("(?s)```java\n(.*?)```").matcher(text);
        while (block.find()) {
            for (String line : block.group(1).split("\n")) {
                followLine(line);
            }
        }
    }

    private void followLine(String line) {
        Matcher typed = TYPED.matcher(line);
        Matcher call = CALL.matcher(line);
        if (NEW.matcher(line).matches()) {
            x = new ToyGreeting();
        } else if (typed.matches()) {
            write(x, typed.group(1));
        } else if (call.matches()) {
            int[] a = new int[3];
            int i = 0;
            for (String number : call.group(2).isEmpty() ? new String[0] : call.group(2).split(", ")) {
                a[i++] = Integer.parseInt(number);
            }
            due(line, RandomTest.answer(x, call.group(1), a[0], a[1], a[2]), Integer.parseInt(call.group(3)));
        } else {
            due("README.md has a line that is no call with its answer: " + line, 1, 0);
        }
    }
}
