import java.io.IOException;
import java.nio.charset.StandardCharsets;
import java.nio.file.Files;
import java.nio.file.Path;
import java.util.List;
import java.util.regex.Matcher;
import java.util.regex.Pattern;

/** Each line of README.md's example answers the number that stands behind it. */
public final class ReadmeTest {
    private static final Pattern LINE = Pattern.compile("x\\.(\\w+)\\(([^)]*)\\);\\s+// (-?\\d+): .*");

    private static int[] numbers(String arguments) {
        String[] parts = arguments.split(", ");
        int[] numbers = new int[parts.length];
        for (int i = 0; i < parts.length; i++) {
            numbers[i] = Integer.parseInt(parts[i]);
        }
        return numbers;
    }

    private static int answer(Nudgelane x, String name, String arguments) {
        if (name.equals("end")) {
            return x.end(Boolean.parseBoolean(arguments));
        }
        int[] n = numbers(arguments);
        switch (name) {
            case "form":
                return x.form(n[0]);
            case "edit":
                return x.edit(n[0], n[1], n[2]);
            case "neighbours":
                return x.neighbours(n[0]);
            case "distance":
                return x.distance(n[0], n[1]);
            case "begin":
                return x.begin(n[0]);
            case "pass":
                return x.pass(n[0]);
            case "worth":
                return x.worth(n[0]);
            case "steps":
                return x.steps(n[0]);
            case "hint":
                return x.hint(n[0]);
            case "lead":
                return x.lead(n[0]);
            case "nearest":
                return x.nearest(n[0]);
            default:
                throw new IllegalArgumentException("the test does not know the call " + name);
        }
    }

    public static void main(String[] args) throws IOException {
        List<String> lines = Files.readAllLines(Path.of("README.md"), StandardCharsets.UTF_8);
        Nudgelane x = new Nudgelane();
        int calls = 0;
        int wrong = 0;
        for (String line : lines) {
            Matcher matcher = LINE.matcher(line);
            if (matcher.matches()) {
                calls++;
                int got = answer(x, matcher.group(1), matcher.group(2));
                if (got != Integer.parseInt(matcher.group(3))) {
                    wrong++;
                    System.out.println(line + " (answered " + got + ")");
                }
            } else if (line.startsWith("x.")) {
                wrong++;
                System.out.println(line + " (tells no number)");
            }
        }
        System.out.println(wrong == 0 ? calls + " lines of the example are as due" : wrong + " lines are not as due");
        if (wrong != 0 || calls == 0) {
            System.exit(1);
        }
    }
}
