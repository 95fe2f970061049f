import java.nio.file.Files;
import java.nio.file.Path;
import java.util.HashSet;
import java.util.List;
import java.util.Set;
import java.util.regex.Matcher;
import java.util.regex.Pattern;

/** What README.md shows is what the class answers: each line of its Java, in its order, on one object. */
public final class ReadmeTest {
    private static final Pattern CALL = Pattern.compile("shop\\.(\\w+)\\((.*)\\); +// (-?\\d+): \\S.*");
    private static final Pattern LETTERS = Pattern.compile("for \\(char c : \"(.+)\"\\.toCharArray\\(\\)\\) \\{");
    private static final Set<String> AROUND = Set.of("", "GluedInLifetime shop = new GluedInLifetime();",
            "    shop.letter(c);", "}");

    private final Checks checks = new Checks();
    private final Asked shop = new Asked();
    private final Set<String> shown = new HashSet<>();

    public static void main(String[] args) throws Exception {
        ReadmeTest t = new ReadmeTest();
        t.linesAnswerAsTold(Files.readAllLines(Path.of("README.md")));
        t.faceIsShown();
        t.checks.end("ReadmeTest");
    }

    private void linesAnswerAsTold(List<String> lines) {
        boolean isJava = false;
        for (String line : lines) {
            if (line.startsWith("```")) {
                isJava = line.equals("```java");
            } else if (isJava) {
                follow(line);
            }
        }
    }

    /** A line that is not understood fails: else it would go untested. */
    private void follow(String line) {
        Matcher call = CALL.matcher(line);
        Matcher letters = LETTERS.matcher(line);
        if (call.matches()) {
            shown.add(call.group(1));
            checks.due(line, shop.ask(call.group(1), numbers(call.group(2))), Long.parseLong(call.group(3)));
        } else if (letters.matches()) {
            shop.put(letters.group(1));
        } else {
            checks.holds("understood: " + line, AROUND.contains(line) || line.startsWith("// "));
        }
    }

    private static int[] numbers(String told) {
        if (told.isEmpty()) {
            return new int[0];
        }
        String[] each = told.split(", ");
        int[] numbers = new int[each.length];
        for (int i = 0; i < each.length; i++) {
            boolean isLetter = each[i].length() == 3 && each[i].charAt(0) == '\'';
            numbers[i] = isLetter ? each[i].charAt(1) : Integer.parseInt(each[i]);
        }
        return numbers;
    }

    private void faceIsShown() {
        for (var m : GluedInLifetime.class.getMethods()) {
            if (m.getDeclaringClass() == GluedInLifetime.class) {
                checks.holds(m.getName() + " is shown", shown.contains(m.getName()));
            }
        }
    }
}
