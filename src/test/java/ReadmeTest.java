import java.io.IOException;
import java.nio.file.Files;
import java.nio.file.Path;
import java.util.ArrayList;
import java.util.List;
import java.util.regex.Matcher;
import java.util.regex.Pattern;

/** The example in README.md: its calls, one after the other, answer what stands behind them. */
final class ReadmeTest {
    private static final String BEGIN = "MovingGuest x = new MovingGuest();";
    private static final Pattern LOOP = Pattern.compile("for \\(int page = 0; page < (\\d+); page\\+\\+\\) \\{");
    private static final Pattern CALL = Pattern.compile("x\\.(\\w+)\\((.*?)\\); *// (true|false|-?\\d+)(:.*)?");

    public static void main(String[] args) throws IOException {
        List<String> lines = example();
        Check.due("README.md has an example", lines.size() > 10, true);
        MovingGuest x = new MovingGuest();
        for (String line : lines) {
            answers(x, line);
        }
        Check.end();
    }

    /** The lines of the example, those of a loop as often as it goes round. */
    private static List<String> example() throws IOException {
        List<String> found = new ArrayList<>();
        List<String> all = Files.readAllLines(Path.of("README.md"));
        int at = all.indexOf(BEGIN) + 1;
        while (at < all.size() && !all.get(at).equals("```")) {
            Matcher loop = LOOP.matcher(all.get(at));
            if (loop.matches()) {
                int end = at + all.subList(at, all.size()).indexOf("}");
                for (int i = 0; i < Integer.parseInt(loop.group(1)); i++) {
                    found.addAll(all.subList(at + 1, end));
                }
                at = end;
            } else {
                found.add(all.get(at));
            }
            at++;
        }
        return found;
    }

    private static void answers(MovingGuest x, String line) {
        Matcher call = CALL.matcher(line.strip());
        Check.due("a call with its answer: " + line, call.matches(), true);
        if (call.matches()) {
            Check.due(line, callOf(call).on(x), answerOf(call.group(3)));
        }
    }

    private static Call callOf(Matcher call) {
        String[] arguments = call.group(2).isEmpty() ? new String[0] : call.group(2).split(", ");
        int a = arguments.length > 0 ? Integer.decode(arguments[0]) : 0;
        int b = arguments.length > 1 ? Integer.decode(arguments[1]) : 0;
        return new Call(call.group(1), a, b);
    }

    private static int answerOf(String text) {
        return text.equals("true") ? 1 : text.equals("false") ? 0 : Integer.parseInt(text);
    }
}
