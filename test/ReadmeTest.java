import java.io.IOException;
import java.lang.reflect.Method;
import java.nio.charset.StandardCharsets;
import java.nio.file.Files;
import java.nio.file.Path;
import java.util.ArrayList;
import java.util.Arrays;
import java.util.List;
import java.util.regex.Matcher;
import java.util.regex.Pattern;
import java.util.stream.Stream;

/** What README.md says of the class and of the tests holds: its example is played, its list of tests compared. */
public final class ReadmeTest {
    private static final Pattern CALL = Pattern.compile("judge\\.(\\w+)\\(([^)]*)\\); *// *(-?\\d+)(?:: \"(.*)\")?.*");
    private static int wrong = 0;

    public static void main(String[] args) throws IOException, ReflectiveOperationException {
        String page = Files.readString(Path.of("README.md"));
        int calls = play(blockOf(page, "```java\n"));
        int tests = compareTests(page);
        System.out.println(calls + " calls of the example, " + tests + " tests named, " + wrong + " wrong");
        if (wrong != 0 || calls < 10 || tests < 5) {
            System.exit(1);
        }
    }

    private static void complain(String what) {
        wrong++;
        System.out.println(what);
    }

    private static String blockOf(String page, String opening) {
        int start = page.indexOf(opening) + opening.length();
        return page.substring(start, page.indexOf("```", start));
    }

    private static int play(String example) throws ReflectiveOperationException {
        MergeJudge judge = new MergeJudge();
        int calls = 0;
        for (String line : example.lines().toList()) {
            if (line.equals("MergeJudge judge = new MergeJudge();")) {
                continue;
            }
            Matcher matcher = CALL.matcher(line);
            if (!matcher.matches()) {
                complain("not a call with its answer: " + line);
                continue;
            }
            calls++;
            Object[] numbers = numbersOf(matcher.group(2));
            long answer = ((Number) methodOf(matcher.group(1)).invoke(judge, numbers)).longValue();
            if (answer != Long.parseLong(matcher.group(3))) {
                complain(line + " answered " + answer);
            }
            if (matcher.group(4) != null && !matcher.group(4).equals(textOf(numbers))) {
                complain(line + " feeds \"" + textOf(numbers) + "\"");
            }
        }
        return calls;
    }

    private static Method methodOf(String name) {
        return Arrays.stream(MergeJudge.class.getMethods()).filter(x -> x.getName().equals(name)).findFirst()
                .orElseThrow();
    }

    private static Object[] numbersOf(String text) {
        return text.isEmpty() ? new Object[0]
                : Arrays.stream(text.split(", ")).map(x -> (Object) Integer.decode(x)).toArray();
    }

    private static String textOf(Object[] numbers) {
        byte[] bytes = new byte[4 * numbers.length];
        for (int i = 0; i < bytes.length; i++) {
            bytes[i] = (byte) ((int) numbers[i / 4] >> 24 - 8 * (i % 4));
        }
        return new String(bytes, StandardCharsets.ISO_8859_1);
    }

    /** The tests that the page lists are those under test; each other file that it names there is there. */
    private static int compareTests(String page) throws IOException {
        String list = page.substring(page.indexOf("## How to run the tests"));
        List<String> there = new ArrayList<>();
        try (Stream<Path> files = Files.list(Path.of("test"))) {
            files.map(x -> x.getFileName().toString().replace(".java", "")).forEach(there::add);
        }
        int tests = 0;
        for (String name : there) {
            if (name.endsWith("Test")) {
                tests++;
                if (!list.contains("\n- `" + name)) {
                    complain(name + " is not listed in README.md");
                }
            }
        }
        Matcher named = Pattern.compile("`(\\w*(?:Test|Sentences|Model))\\b").matcher(list);
        while (named.find()) {
            if (!there.contains(named.group(1))) {
                complain("README.md names " + named.group(1) + ", which is not under test");
            }
        }
        return tests;
    }
}
