import java.io.IOException;
import java.lang.reflect.Method;
import java.nio.file.Files;
import java.nio.file.Path;
import java.util.ArrayList;
import java.util.HashMap;
import java.util.List;
import java.util.Map;
import java.util.regex.Matcher;
import java.util.regex.Pattern;

/** Each sentence of the document stands in SENTENCES.md, with tests that are there. */
final class SentenceTest {
    private static final Pattern PROMISE = Pattern.compile("(?s)\n## (Promise \\d+: [^\n]*)\n(.*?)(?=\n## )");
    private static final Pattern TEST = Pattern.compile("`(\\w+)\\.(\\w+)`");

    private SentenceTest() {
    }

    static void run(Path document, Path sentences) {
        Map<String, List<String>> told = new HashMap<>();
        for (String section : textOf(sentences).split("\n## ")) {
            String[] items = section.split("\n- ");
            told.put(items[0].strip(), itemsOf(items));
        }
        Check.yes("sentences are told", told.size() > 42);
        String text = textOf(document);
        String terms = text.substring(text.indexOf("\n## Terms\n") + 10, text.indexOf("\nExamples. "));
        String head = "";
        for (String paragraph : terms.strip().split("\n\n")) {
            String[] parts = plain(paragraph).split("(?<=\\.) (?=[A-Z0-9])");
            int from = parts.length > 1 ? 1 : 0;
            head = from == 1 ? parts[0].substring(0, parts[0].length() - 1) : head;
            for (int i = from; i < parts.length; i++) {
                isTold(told, head, parts[i]);
            }
        }
        Matcher promise = PROMISE.matcher(text);
        int promises = 0;
        while (promise.find()) {
            promises++;
            for (String paragraph : promise.group(2).strip().split("\n\n")) {
                if (!paragraph.startsWith("- ")) {
                    isTold(told, promise.group(1), plain(paragraph).replaceFirst("^`[^`]*`: ", ""));
                }
            }
        }
        Check.same("promises", promises, 42);
    }

    /** Of each item its sentence; its tests are looked for. */
    private static List<String> itemsOf(String[] items) {
        List<String> found = new ArrayList<>();
        for (int i = 1; i < items.length; i++) {
            Matcher test = TEST.matcher(items[i]);
            int tests = 0;
            int end = items[i].length();
            while (test.find()) {
                end = Math.min(end, test.start());
                tests++;
                Check.yes(test.group() + " is a test", isThere(test.group(1), test.group(2)));
            }
            String sentence = plain(items[i].substring(0, end));
            Check.yes("has tests: " + sentence, tests > 0);
            found.add(sentence);
        }
        return found;
    }

    private static boolean isThere(String type, String name) {
        try {
            for (Method method : Class.forName(type).getDeclaredMethods()) {
                if (method.getName().equals(name)) {
                    return true;
                }
            }
        } catch (ClassNotFoundException none) {
            return false;
        }
        return false;
    }

    private static void isTold(Map<String, List<String>> told, String section, String sentence) {
        Check.yes(section + " has tests for: " + sentence, told.getOrDefault(section, List.of()).contains(sentence));
    }

    private static String plain(String text) {
        return text.strip().replaceAll("\\s+", " ");
    }

    private static String textOf(Path file) {
        try {
            return Files.readString(file);
        } catch (IOException wrong) {
            throw new IllegalStateException(wrong);
        }
    }
}
