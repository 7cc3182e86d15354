import java.io.IOException;
import java.nio.file.Files;
import java.nio.file.Path;
import java.util.List;
import java.util.regex.Matcher;
import java.util.regex.Pattern;

/** What of LANGUAGE.md can be seen in the lines of the program. */
final class LanguageTest {
    private static final String[] RULED_OUT = {
        "\\bpackage\\b", "\\bcatch\\b", "\\btry\\b", "\\bfinally\\b", "->", "::", "\\bassert\\b", "\\bsynchronized\\b",
        "\\bstatic \\{", "\\binstanceof\\b", "\\bprotected\\b", "\\bNaN\\b", "Exact\\(", "\" \\+", "\\+ \"",
        "\\bSystem\\.(?!arraycopy)", "\\bString\\b", "\\bObject\\b", "\\bRandom\\b", "\\bThread\\b",
        "\\bequals\\(", "\\bhashCode\\(", "\\btoString\\(", "\\bMath\\.(?!abs|max|min)", "\\bdo \\{", "\\[\\w+\\[",
    };
    private static final Pattern THROWN = Pattern.compile("throw new (\\w+)");
    private static final List<String> MAY_BE_THROWN = List.of("IllegalStateException", "IllegalArgumentException",
            "IndexOutOfBoundsException", "ArithmeticException", "UnsupportedOperationException",
            "NoSuchElementException");

    private static final Pattern LOOP = Pattern.compile("\\b(?:for|while) \\((.*)\\) \\{");
    /** A counter that rises to a bound, one that is halved or falls to 0, and the chain of a heat's acts. */
    private static final Pattern BOUNDED = Pattern.compile("int (\\w+) = [^;]+; \\1 <=? [^;]+; \\1\\+\\+"
            + "|int (\\w+) = [^;]+; \\2 > 0; \\2 /= 2|at > 0 && .*"
            + "|Act (\\w+) = firstAct; \\3 != null; \\3 = \\3\\.next");

    private LanguageTest() {
    }

    static void run(Path file) {
        List<String> lines;
        try {
            lines = Files.readAllLines(file);
        } catch (IOException wrong) {
            Check.yes("the program can be read: " + wrong, false);
            return;
        }
        String text = String.join("\n", lines);
        String bare = text.replaceAll("(?s)/\\*.*?\\*/", "").replaceAll("//[^\n]*", "");
        for (String pattern : RULED_OUT) {
            Check.no("nothing like " + pattern, Pattern.compile(pattern).matcher(bare).find());
        }
        Check.yes("signs up to 127", text.chars().allMatch(sign -> sign < 128));
        Matcher thrown = THROWN.matcher(bare);
        while (thrown.find()) {
            Check.yes(thrown.group(1) + " may be thrown", MAY_BE_THROWN.contains(thrown.group(1)));
        }
        Matcher imported = Pattern.compile("import ([\\w.*]+);").matcher(bare);
        while (imported.find()) {
            Check.yes(imported.group(1) + " may be imported",
                    imported.group(1).equals("java.util.NoSuchElementException"));
        }
        methods(lines);
        loops(lines);
    }

    private static void loops(List<String> lines) {
        int found = 0;
        for (int i = 0; i < lines.size(); i++) {
            Matcher loop = LOOP.matcher(lines.get(i));
            if (loop.find()) {
                found++;
                Check.yes("its end is seen: " + lines.get(i), BOUNDED.matcher(loop.group(1)).matches());
                boolean isFalling = !loop.group().startsWith("while") || lines.get(i + 2).strip().equals("at--;");
                Check.yes("its counter falls: " + lines.get(i), isFalling);
            }
        }
        Check.yes("loops are found", found > 40);
    }

    private static void methods(List<String> lines) {
        Pattern head = Pattern.compile("^( {4}| {8})(?:\\w+ )*[\\w\\[\\]]+ ?\\w*\\(.*");
        int begin = -1;
        String indent = "";
        for (int i = 0; i < lines.size(); i++) {
            String line = lines.get(i);
            Matcher matcher = head.matcher(line);
            if (begin < 0 && matcher.matches() && !line.endsWith(";")) {
                begin = i;
                indent = matcher.group(1);
                Check.yes("at most seven parameters: " + line, line.chars().filter(sign -> sign == ',').count() < 7);
            } else if (begin >= 0 && line.equals(indent + "}")) {
                Check.yes("at most sixty lines: " + lines.get(begin), i - begin <= 60);
                begin = -1;
            }
        }
    }
}
