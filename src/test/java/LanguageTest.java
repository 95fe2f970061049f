import java.nio.file.Files;
import java.nio.file.Path;
import java.util.List;
import java.util.regex.Matcher;
import java.util.regex.Pattern;

/** What of ../shared/LANGUAGE.md can be seen in the text of the class; its path is the one argument. */
public final class LanguageTest {
    private static final String[] WORDS = {"import", "package", "throw", "throws", "try", "catch", "finally",
        "synchronized", "assert", "protected", "volatile", "transient", "native", "record", "var", "yield",
        "Object", "System\\s*\\.\\s*(?!arraycopy)\\w+", "Thread", "Random", "\\w+Exact", "hashCode"};
    private static final Pattern CALLED = Pattern.compile("(Math|Integer|Long|String|Character|Arrays|List)\\.(\\w+)");
    private static final List<String> LIBRARY = List.of("Math.max", "Math.min");

    private final Checks checks = new Checks();
    private final String code;

    private LanguageTest(String code) {
        this.code = code;
    }

    public static void main(String[] args) throws Exception {
        String text = Files.readString(Path.of(args[0]));
        LanguageTest t = new LanguageTest(bare(text));
        t.checks.holds("7-bit signs alone", text.chars().allMatch(c -> c == '\n' || c >= 32 && c < 127));
        t.wordsLeftOut();
        t.libraryAlone();
        t.makesOnlyInFieldsAndConstructors();
        t.methodsAreShort();
        t.checks.end("LanguageTest");
    }

    /** The code without comments and without what stands in quotes. */
    private static String bare(String text) {
        return text.replaceAll("(?s)/\\*.*?\\*/", "").replaceAll("//[^\n]*", "")
                .replaceAll("\"[^\"\n]*\"", "\"\"").replaceAll("'[^'\n]+'", "' '");
    }

    private void wordsLeftOut() {
        for (String word : WORDS) {
            Matcher m = Pattern.compile("\\b" + word + "\\b").matcher(code);
            checks.holds("no " + word, !m.find());
        }
        for (String sign : new String[] {"->", "::", "@", "..."}) {
            checks.holds("no " + sign, !code.contains(sign));
        }
        checks.holds("no static block", !Pattern.compile("static\\s*\\{").matcher(code).find());
        checks.holds("no text joined by +", !Pattern.compile("\"\"\\s*\\+|\\+\\s*\"\"").matcher(code).find());
        Pattern loose = Pattern.compile("static\\s+(?!final|class)\\w+(\\[\\])?\\s+\\w+\\s*[=;]");
        checks.holds("static fields are final", !loose.matcher(code).find());
    }

    private void libraryAlone() {
        Matcher m = CALLED.matcher(code);
        while (m.find()) {
            checks.holds(m.group() + " is in the library", LIBRARY.contains(m.group()));
        }
    }

    /** So no call makes an object: the room is used up by constructors alone. */
    private void makesOnlyInFieldsAndConstructors() {
        for (String line : code.split("\n")) {
            if (line.matches(".*\\bnew\\b.*")) {
                checks.holds("made once: " + line.trim(),
                        line.matches("\\s*private final .* = new .*;") || line.trim().equals("things[thing] = new Thing();"));
            }
        }
    }

    private void methodsAreShort() {
        Matcher m = Pattern.compile("\n( {4}| {8})(public|private)[^;={]*\\(([^)]*)\\) \\{\n.*?\n\\1\\}", Pattern.DOTALL)
                .matcher(code);
        int found = 0;
        while (m.find()) {
            found++;
            String head = m.group().trim().split("\n")[0];
            checks.holds(head + " is short", m.group().split("\n").length <= 60);
            checks.holds(head + " takes seven at most", m.group(3).split(",").length <= 7);
        }
        checks.holds("methods were found", found > 41);
    }
}
