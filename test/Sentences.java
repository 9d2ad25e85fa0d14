import java.io.IOException;
import java.nio.charset.StandardCharsets;
import java.nio.file.Files;
import java.nio.file.Path;
import java.util.LinkedHashMap;
import java.util.List;
import java.util.Map;
import java.util.function.IntToLongFunction;
import java.util.regex.Matcher;
import java.util.regex.Pattern;

/** What SentenceTest is written in: a sentence of the document, and behind it the answers that are due by it. */
abstract class Sentences {
    /** Of 9 STATES 0 .. 5 are VALID; from 0, 1, 2 the side that adds to cell 1 breaks with itself. */
    static final String EXAMPLE = "base top 2 law 0 odds 5;cell max;cell add;rule most 1 1;rule sum 0 1 3;"
            + "op more 0 1;op more 1 1;";
    /** VALID are 0, 1, 2; from 0 the sides 1, 2 and 2, 2 merge to 3, from 1 the sides 2, 2. */
    static final String COUNTER = "base top 3 law 2 odds 3;cell add;rule most 0 2;op more 0 1;op more 0 2;";
    /** Where a 2 in cell 0 asks for a 1 in cell 1; by law 1 there is a BREAK from 0, 1. */
    static final String LATE = "base top 2 law 0 odds 0;cell late;cell late;rule if 0 2 1 1;op move 1 0 1;"
            + "op set 0 2;op set 0 1;";
    /** Four STATES, one step behind the other; no BREAK. */
    static final String LADDER = "base top 3 law 0 odds 5;cell max;rule most 0 3;op more 0 1;";
    /** Rule 0 alone is SAFE, rule 1 alone is not, both are. */
    static final String SUMS = "base top 1 law 0 odds 5;cell max;cell max;rule most 0 0;rule sum 0 1 1;op more 0 1;"
            + "op more 1 1;";
    /** From 0, 1 in two steps to 1, 0: with the base itself it merges to 1, 1. */
    static final String TWO_STEPS = "base top 1 law 3 odds 0;cell max;cell max;rule sum 1 0 1;op set 1 0;"
            + "op more 0 1;";
    static final String EMPTY = "base top 1 law 3 odds 10;";
    static final String NO_VALID = "base top 1 law 0 odds 0;cell max;rule most 0 0;rule least 0 1;op more 0 1;";
    /** As many CELLS, RULES, OPS and STATES as can be; all are VALID. */
    static final String FULL = "base top 3 law 1 odds 10;cell max;cell min;cell late;rule most 0 3;rule least 2 0;"
            + "rule sum 0 1 6;rule if 0 3 0 3;rule most 2 3;op more 0 3;op less 0 3;op set 1 3;op set 1 0;"
            + "op move 0 2 3;";
    static final int MIN = Integer.MIN_VALUE;
    static final int MAX = Integer.MAX_VALUE;
    static final String HEAD = "base top 1 law 0 odds 0;";
    private static final int[] FAR_OUT = {-1, -2, MIN, MIN + 1, 31, 32, 33, 64, 65, 256, 65536, 1 << 30, MAX - 1, MAX};

    private static final Map<String, StringBuilder> QUOTED = new LinkedHashMap<>();
    private static String where = "";
    private static String said = "";
    private static int askedHere = 1;
    private static int asked = 0;
    private static int sentences = 0;
    private static int wrong = 0;

    // ---- sentences and answers

    static void says(String place, String sentence) {
        if (askedHere == 0) {
            complain("nothing is asked by: " + said);
        }
        askedHere = 0;
        sentences++;
        where = place;
        said = sentence;
        QUOTED.computeIfAbsent(place, x -> new StringBuilder()).append(sentence);
    }

    static void due(long got, long want) {
        askedHere++;
        asked++;
        if (got != want) {
            complain("answered " + got + ", due is " + want);
        }
    }

    private static void complain(String what) {
        wrong++;
        String line = StackWalker.getInstance().walk(frames -> frames
                .filter(frame -> !frame.getClassName().equals("Sentences")).findFirst()
                .map(frame -> frame.getClassName() + " " + frame.getLineNumber()).orElse("?"));
        System.out.println(line + ": " + what + "  (" + where + ": " + said + ")");
    }

    /** Asks with numbers below 0, from count on, and such that a shift or a cast would bring back among the right ones. */
    static void beyond(int count, long want, IntToLongFunction ask) {
        due(ask.applyAsLong(count), want);
        for (int number : FAR_OUT) {
            if (number < 0 || number > count) {
                due(ask.applyAsLong(number), want);
            }
        }
    }

    // ---- texts

    static void feed(MergeJudge x, byte[] bytes) {
        int[] n = new int[5];
        for (int at = 0; at < bytes.length; at += 20) {
            for (int i = 0; i < 20; i++) {
                int sign = at + i < bytes.length ? bytes[at + i] & 255 : 32;
                n[i / 4] = n[i / 4] << 8 | sign;
            }
            x.feed(n[0], n[1], n[2], n[3], n[4]);
        }
    }

    static int tell(MergeJudge x, String text) {
        byte[] bytes = text.getBytes(StandardCharsets.ISO_8859_1);
        int before = x.count(8);
        feed(x, bytes);
        x.end(before + bytes.length);
        return x.base();
    }

    /** A new object with a BASE. */
    static MergeJudge of(String text) {
        MergeJudge x = new MergeJudge();
        int lines = (int) text.chars().filter(c -> c == ';').count();
        if (tell(x, text) != lines) {
            complain("no base: " + text);
        }
        return x;
    }

    static MergeJudge none() {
        return new MergeJudge();
    }

    /** A text that is a BASE. */
    static void good(String text) {
        MergeJudge x = new MergeJudge();
        due(tell(x, text), text.chars().filter(c -> c == ';').count());
        due(x.fault(0), 0);
        due(x.fault(1), -1);
    }

    /** A text with a FAULT: of a kind, where its rest begins. */
    static void fault(int kind, String ahead, String rest) {
        MergeJudge x = new MergeJudge();
        due(tell(x, ahead + rest), -4);
        due(x.fault(0), kind);
        due(x.fault(1), ahead.length());
    }

    static void write(MergeJudge x, int slot, int width, long... numbers) {
        x.row(slot, width, numbers.length);
        for (int i = 0; i < numbers.length; i++) {
            x.write(slot, i, numbers[i]);
        }
    }

    // ---- the end: is the whole document quoted

    static boolean finish() throws IOException {
        if (askedHere == 0) {
            complain("nothing is asked by: " + said);
        }
        Map<String, String> document = document(Files.readAllLines(Path.of("../shared/DOC.md")));
        where = "DOC.md";
        for (String place : document.keySet()) {
            said = place;
            String quoted = QUOTED.getOrDefault(place, new StringBuilder()).toString();
            if (!bare(quoted).equals(bare(document.get(place)))) {
                complain("is not quoted as it stands:\n  " + document.get(place) + "\n  " + quoted);
            }
        }
        for (String place : QUOTED.keySet()) {
            said = place;
            if (!document.containsKey(place)) {
                complain("is not in the document");
            }
        }
        System.out.println(sentences + " sentences of " + document.size() + " places, " + asked + " answers, " + wrong
                + " wrong");
        return wrong == 0;
    }

    private static String bare(String text) {
        return text.replaceAll("\\s+", "");
    }

    /** The text of each TERM (I .. X), of each line of the two blocks and of each promise (1 .. 80). */
    private static Map<String, String> document(List<String> lines) {
        Map<String, String> texts = new LinkedHashMap<>();
        Pattern term = Pattern.compile("([IVX]+)\\. (.*)");
        Pattern block = Pattern.compile(" {2}(TOKENS|FAULTS|SLOTS|An OP)\\b.*");
        Pattern promise = Pattern.compile("`[^`]*`: (.*)");
        Pattern heading = Pattern.compile("## Promise (\\d+):.*");
        String number = "";
        for (String line : lines) {
            Matcher m = heading.matcher(line);
            if (m.matches()) {
                number = m.group(1);
            }
            m = term.matcher(line);
            if (m.matches()) {
                texts.put(m.group(1), m.group(2));
            }
            m = block.matcher(line);
            if (m.matches()) {
                texts.put(m.group(1), line);
            }
            m = promise.matcher(line);
            if (m.matches()) {
                texts.put(number, m.group(1));
            }
        }
        return texts;
    }
}
