import java.io.IOException;
import java.lang.reflect.InvocationTargetException;
import java.lang.reflect.Method;
import java.nio.file.Files;
import java.nio.file.Path;
import java.util.ArrayList;
import java.util.List;
import java.util.Set;
import java.util.TreeSet;
import java.util.regex.Matcher;
import java.util.regex.Pattern;
import java.util.stream.Collectors;
import java.util.stream.Stream;

/**
 * What README.md shows of calls and answers is as the class answers, every method is shown there, and the tests that
 * it names are those that are here.
 */
public final class ReadmeTest {
    private static final Pattern BLOCK = Pattern.compile("(?s)```java\n(.*?)```");
    private static final String NEW_OBJECT = "FlueRounds city = new FlueRounds\\(\\);.*";
    // A line without an answer is a fault: it would show a call that nothing holds it to.
    private static final Pattern CALL = Pattern.compile("city\\.(\\w+)\\(([^()]*)\\); +// (-?\\d+|BAD|STATE|FULL|NONE)(?:: .*)?");
    private static final Pattern NAMED_TEST = Pattern.compile("`(\\w+Test)`");
    private static final Check check = new Check();

    private final Set<String> shown = new TreeSet<>();
    private FlueRounds city = null;

    public static void main(String[] args) throws IOException, IllegalAccessException, InvocationTargetException {
        String text = Files.readString(Path.of("README.md"));
        ReadmeTest test = new ReadmeTest();
        for (String line : shownLines(text)) {
            test.follow(line);
        }
        check.isTrue("README.md shows every call: " + test.shown, test.shown.equals(FaceTest.publicNames()));
        check.isTrue("README.md names the tests that are here", namedTests(text).equals(testsHere()));
        check.isTrue("README.md says how to run them", text.contains("`.ci/run`"));
        check.end("ReadmeTest");
    }

    private static List<String> shownLines(String text) {
        List<String> lines = new ArrayList<>();
        Matcher block = BLOCK.matcher(text);
        while (block.find()) {
            for (String line : block.group(1).split("\n")) {
                if (!line.isBlank()) {
                    lines.add(line);
                }
            }
        }
        return lines;
    }

    private void follow(String line) throws IllegalAccessException, InvocationTargetException {
        if (line.matches(NEW_OBJECT)) {
            city = new FlueRounds();
            return;
        }
        Matcher call = CALL.matcher(line);
        boolean isCall = city != null && call.matches();
        check.isTrue("README.md shows a call and its answer: " + line, isCall);
        if (isCall) {
            shown.add(call.group(1));
            check.is("README.md: " + line, answer(call.group(1), call.group(2)), number(call.group(3)));
        }
    }

    private long answer(String name, String given) throws IllegalAccessException, InvocationTargetException {
        String[] words = given.isBlank() ? new String[0] : given.split(", *");
        for (Method m : FlueRounds.class.getDeclaredMethods()) {
            if (m.getName().equals(name) && m.getParameterCount() == words.length) {
                Object[] values = new Object[words.length];
                for (int i = 0; i < words.length; i++) {
                    values[i] = valueOf(words[i], m.getParameterTypes()[i]);
                }
                return ((Number) m.invoke(city, values)).longValue();
            }
        }
        check.isTrue("there is a call " + name + " of " + words.length, false);
        return 0;
    }

    private static Object valueOf(String word, Class<?> type) {
        if (type == boolean.class) {
            return Boolean.valueOf(word);
        }
        long v = Long.decode(word.replaceAll("L$", ""));
        if (type == long.class) {
            return v;
        }
        return Math.toIntExact(v);
    }

    private static long number(String word) {
        switch (word) {
            case "BAD":
                return FlueRounds.BAD;
            case "STATE":
                return FlueRounds.STATE;
            case "FULL":
                return FlueRounds.FULL;
            case "NONE":
                return FlueRounds.NONE;
            default:
                return Long.parseLong(word);
        }
    }

    private static Set<String> namedTests(String text) {
        Set<String> names = new TreeSet<>();
        Matcher named = NAMED_TEST.matcher(text);
        while (named.find()) {
            names.add(named.group(1));
        }
        return names;
    }

    private static Set<String> testsHere() throws IOException {
        try (Stream<Path> files = Files.list(Path.of("src/test/java"))) {
            return files.map(f -> f.getFileName().toString()).filter(n -> n.endsWith("Test.java"))
                .map(n -> n.replace(".java", "")).collect(Collectors.toCollection(TreeSet::new));
        }
    }
}
