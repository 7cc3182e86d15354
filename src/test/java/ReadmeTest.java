import java.io.IOException;
import java.lang.reflect.InvocationTargetException;
import java.lang.reflect.Method;
import java.nio.file.Files;
import java.nio.file.Path;
import java.util.regex.Matcher;
import java.util.regex.Pattern;
import java.util.stream.Stream;

/** What README.md tells of the class holds: each call of its example is made, and answers what stands behind it. */
final class ReadmeTest {
    private static final Pattern CALL = Pattern.compile("tour\\.(\\w+)\\(([^)]*)\\); +// (throws )?([^,]+)(?:, .+)?");

    private ReadmeTest() {
    }

    static void run(Path readme, Path tests) {
        String text = textOf(readme);
        int begin = text.indexOf("```java\n") + 8;
        String[] lines = text.substring(begin, text.indexOf("```", begin)).split("\n");
        Check.yes("README makes an object", lines[0].equals("Prioritywave tour = new Prioritywave();"));
        Prioritywave tour = new Prioritywave();
        for (int i = 1; i < lines.length; i++) {
            Matcher call = CALL.matcher(lines[i]);
            if (call.matches()) {
                String due = (call.group(3) == null ? "" : "throws ") + call.group(4);
                String got = answer(tour, call.group(1), call.group(2));
                Check.tell(got.equals(due), "README: " + lines[i], got, due);
            } else {
                Check.yes("README has a call and its answer: " + lines[i], false);
            }
        }
        Check.yes("README tells calls", lines.length > 20);
        namesAll(text);
        namesTests(text, tests);
    }

    private static void namesAll(String text) {
        for (Method method : Prioritywave.class.getDeclaredMethods()) {
            for (Class<?> thrown : method.getExceptionTypes()) {
                Check.yes("README tells when it is thrown: " + thrown.getSimpleName(),
                        text.contains("| `" + thrown.getSimpleName() + "` |"));
            }
        }
        Check.yes("README tells for how many calls", text.contains("at most 512 calls"));
        Check.yes("README tells how tests are run", text.contains("\n    .ci/run\n"));
    }

    private static void namesTests(String text, Path tests) {
        try (Stream<Path> files = Files.list(tests)) {
            files.map(file -> file.getFileName().toString()).filter(name -> name.endsWith("Test.java"))
                    .forEach(name -> Check.yes("README names " + name,
                            text.contains("| `" + name.replace(".java", "") + "` |")));
        } catch (IOException wrong) {
            throw new IllegalStateException(wrong);
        }
    }

    private static String answer(Prioritywave tour, String name, String told) {
        for (Method method : Prioritywave.class.getMethods()) {
            if (method.getName().equals(name)) {
                try {
                    return String.valueOf(method.invoke(tour, arguments(told)));
                } catch (IllegalAccessException wrong) {
                    throw new IllegalStateException(wrong);
                } catch (InvocationTargetException invoked) {
                    return "throws " + invoked.getCause().getClass().getSimpleName();
                }
            }
        }
        return "no such method";
    }

    private static Object[] arguments(String told) {
        if (told.isEmpty()) {
            return new Object[0];
        }
        String[] parts = told.split(", ");
        Object[] arguments = new Object[parts.length];
        for (int i = 0; i < parts.length; i++) {
            if (parts[i].startsWith("'")) {
                arguments[i] = parts[i].charAt(1);
            } else if (parts[i].equals("true") || parts[i].equals("false")) {
                arguments[i] = parts[i].equals("true");
            } else {
                arguments[i] = Integer.parseInt(parts[i]);
            }
        }
        return arguments;
    }

    private static String textOf(Path file) {
        try {
            return Files.readString(file);
        } catch (IOException wrong) {
            throw new IllegalStateException(wrong);
        }
    }
}
