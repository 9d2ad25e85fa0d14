import java.lang.reflect.InvocationTargetException;
import java.lang.reflect.Method;
import java.util.ArrayList;
import java.util.Arrays;
import java.util.Comparator;
import java.util.List;
import java.util.Random;
import java.util.TreeMap;

/** Long random runs of calls, each answer held against the Model's. */
public final class OracleTest {
    private static final int[] EDGES = {-1, -2, Integer.MIN_VALUE, Integer.MAX_VALUE, 64, 100, 4, 5, 60, 61, 20, 21,
        1 << 30, 2000000000, 2000000001};
    private static int wrong = 0;
    private static final TreeMap<String, Integer> CALLED = new TreeMap<>();

    public static void main(String[] args) throws ReflectiveOperationException {
        long runs = args.length > 0 ? Long.parseLong(args[0]) : 400;
        long from = args.length > 1 ? Long.parseLong(args[1]) : 0;
        for (long run = from; run < from + runs && wrong < 10; run++) {
            new OracleTest(run).play();
        }
        System.out.println(runs + " runs, " + CALLED.values().stream().mapToInt(x -> x).sum() + " calls of "
                + CALLED.size() + " methods, " + wrong + " wrong");
        if (wrong != 0 || runs > 100 && CALLED.size() != 79) {
            System.exit(1);
        }
    }

    private final long run;
    private final Random random;
    private final MergeJudge judge = new MergeJudge();
    private final Model model = new Model();
    private final Method[] methods;
    private final List<String> told = new ArrayList<>();

    private OracleTest(long run) {
        this.run = run;
        random = new Random(run * 7919 + 13);
        methods = Arrays.stream(MergeJudge.class.getDeclaredMethods())
                .filter(x -> java.lang.reflect.Modifier.isPublic(x.getModifiers()))
                .sorted(Comparator.comparing(Method::getName)).toArray(Method[]::new);
    }

    private void play() throws ReflectiveOperationException {
        int calls = 0;
        if (random.nextInt(10) > 0) {
            calls += tell(text());
        }
        while (calls < 440 && wrong < 10) {
            int dice = random.nextInt(100);
            if (dice < 1 || !model.is() && dice < 30) {
                calls += tell(random.nextInt(3) == 0 ? text() : spoilt(text()));
            } else if (dice < 3) {
                calls += seen();
            } else if (dice < 4) {
                for (int i = random.nextInt(25); i > 0; i--) {
                    String act = new String[] {"lock", "frees", "drops"}[random.nextInt(3)];
                    check(act, usual(act, 0));
                    calls++;
                }
            } else {
                Method method = methods[random.nextInt(methods.length)];
                if (method.getName().equals("base") && random.nextInt(12) > 0) {
                    continue;
                }
                check(method.getName(), arguments(method));
                calls++;
            }
        }
    }

    // ---- arguments

    private long[] arguments(Method method) {
        long[] numbers = new long[method.getParameterCount()];
        String name = method.getName();
        for (int i = 0; i < numbers.length; i++) {
            numbers[i] = random.nextInt(30) == 0 ? EDGES[random.nextInt(EDGES.length)] : usual(name, i);
        }
        return numbers;
    }

    private int usual(String name, int i) {
        int states = model.is() ? model.size() : 3;
        switch (name) {
            case "feed":
                return random.nextInt();
            case "end":
                return random.nextInt(400);
            case "value", "valid", "breaks", "merge", "even", "far", "step", "weight", "calm", "opens", "nearest":
                return random.nextInt(states + (random.nextInt(10) == 0 ? 2 : 0));
            case "reach", "freely", "bad", "asked":
                return i == 0 ? random.nextInt(states) : random.nextInt(5);
            case "does", "holds":
                return i == 1 ? random.nextInt(states) : random.nextInt(6);
            case "worth":
                return random.nextInt(34);
            case "drawn":
                return i == 0 ? random.nextInt(2000000001) : random.nextInt(3);
            case "luck":
                return i == 0 ? random.nextInt(2000000001) : random.nextInt(22);
            case "count":
                return random.nextInt(11);
            case "row", "write", "paste":
                return name.equals("row") && i == 1 || random.nextInt(3) > 0 ? random.nextInt(4) : random.nextInt(62);
            case "gets":
                return i < 2 ? random.nextInt(Math.max(2, model.told.ops.size())) : random.nextInt(2);
            case "lock", "frees", "works", "commute", "clashes", "rests", "op":
                return random.nextInt(i == 1 && name.equals("op") ? 5 : Math.max(2, model.told.ops.size()));
            case "drops", "rule", "hits", "alone", "known", "spare", "share":
                return random.nextInt(i == 1 ? name.equals("share") ? 2 : 5 : Math.max(1, model.told.rules.size()));
            case "chance", "mean":
                return random.nextInt(2);
            default:
                return random.nextInt(5);
        }
    }

    /** Puts merges into a SLOT's row, most of them as one base and one law would have them. */
    private int seen() throws ReflectiveOperationException {
        if (!model.is()) {
            return 0;
        }
        int triples = random.nextInt(5);
        int slot = random.nextInt(4);
        int states = model.size();
        int base = random.nextInt(states);
        Model.Case by = new Model.Case(model.told.dropped(), model.told.locked(), model.told.kinds, random.nextInt(4));
        check("row", slot, random.nextInt(4), 3 * triples + (random.nextInt(12) == 0 ? 1 : 0));
        for (int i = 0; i < triples; i++) {
            int first = random.nextInt(states);
            int second = random.nextInt(states);
            int result = random.nextInt(15) == 0 ? random.nextInt(states + 1) : model.merged(by, base, first, second);
            check("write", slot, 3 * i, first);
            check("write", slot, 3 * i + 1, second + 4294967296L * random.nextInt(2) * random.nextInt(2));
            check("write", slot, 3 * i + 2, result);
        }
        check("fits", slot);
        check("which", slot);
        check("laws", slot);
        return 4 + 3 * triples;
    }

    // ---- texts

    /** Most texts are of bases that have BREAKS: others tell too little. */
    private String text() {
        String text = anyText();
        for (int tries = 0; tries < 40 && random.nextInt(12) > 0 && !hasBreaks(text); tries++) {
            text = anyText();
        }
        return text;
    }

    private static boolean hasBreaks(String text) {
        Model trial = new Model();
        trial.tape.append(text);
        trial.base();
        return trial.is() && !trial.breaks(trial.now(), 1).isEmpty();
    }

    private String anyText() {
        StringBuilder text = new StringBuilder();
        int top = 1 + random.nextInt(random.nextInt(8) == 0 ? 3 : 2);
        int cells = random.nextInt(8) == 0 ? random.nextInt(2) : 1 + random.nextInt(3);
        text.append("base top ").append(top).append(" law ").append(random.nextInt(4)).append(" odds ")
                .append(random.nextInt(11)).append(";");
        List<String> lines = new ArrayList<>();
        for (int i = 0; i < cells; i++) {
            text.append("cell ").append(pick("max", "min", "add", "late")).append(';');
        }
        for (int i = random.nextInt(6); i > 0 && cells > 0; i--) {
            lines.add("rule " + ruleText(top, cells));
        }
        for (int i = random.nextInt(6); i > 0 && cells > 0; i--) {
            lines.add("op " + opText(top, cells));
        }
        java.util.Collections.shuffle(lines, random);
        for (String line : lines) {
            text.append(random.nextInt(9) == 0 ? "\n" : "").append(line).append(random.nextInt(9) == 0 ? " ; " : ";");
        }
        return text.toString();
    }

    private String pick(String... words) {
        return words[random.nextInt(words.length)];
    }

    private String ruleText(int top, int cells) {
        int a = random.nextInt(cells);
        int b = cells == 1 ? -1 : (a + 1 + random.nextInt(cells - 1)) % cells;
        String n = " " + random.nextInt(top + 1);
        String kind = b < 0 ? pick("most", "least", "if") : pick("most", "least", "unlike", "sum", "order", "if");
        switch (kind) {
            case "most":
                return "most " + a + " " + (top > 1 && random.nextInt(3) > 0 ? top - 1 : random.nextInt(top + 1));
            case "least":
                return "least " + a + (random.nextInt(3) > 0 ? " 1" : n);
            case "sum":
                return "sum " + a + " " + b + " " + (top + random.nextInt(top) - random.nextInt(2));
            case "if":
                return "if " + a + n + " " + random.nextInt(cells) + " " + random.nextInt(top + 1);
            default:
                return kind + " " + a + " " + b;
        }
    }

    private String opText(int top, int cells) {
        int a = random.nextInt(cells);
        int b = cells == 1 ? -1 : (a + 1 + random.nextInt(cells - 1)) % cells;
        int n = random.nextInt(3) > 0 ? 1 : 1 + random.nextInt(top);
        String kind = b < 0 ? pick("more", "less", "set") : pick("more", "less", "set", "move");
        switch (kind) {
            case "set":
                return "set " + a + " " + random.nextInt(top + 1);
            case "move":
                return "move " + a + " " + b + " " + n;
            default:
                return kind + " " + a + " " + n;
        }
    }

    /** One place of a text changed: another token, none, one twice, an end, a sign that is none. */
    private String spoilt(String text) {
        int at = random.nextInt(text.length() + 1);
        String[] pieces = {";", " ", "\n", "0", "1", "3", "7", "00", "99999999999999999999", "4294967297", "base",
            "base top 1 law 0 odds 0;", "cell max;", "rule ", "op ", "most", "move", "if", "A", "-", "\t", "\r",
            "\u00e9", "x", " cell late;cell min;cell max;cell add;", "op set 0 0;", "rule most 0 1;"};
        String piece = pieces[random.nextInt(pieces.length)];
        switch (random.nextInt(4)) {
            case 0:
                return text.substring(0, at);
            case 1:
                return text.substring(0, at) + piece + text.substring(at);
            case 2:
                return text.substring(0, at) + text.substring(Math.min(text.length(), at + 1 + random.nextInt(4)));
            default:
                return text.substring(0, at) + piece + text.substring(Math.min(text.length(), at + piece.length()));
        }
    }

    private int tell(String text) throws ReflectiveOperationException {
        byte[] bytes = Model.bytes(text);
        check("end", 0);
        int calls = 0;
        for (int at = 0; at < bytes.length && at < 400; at += 20) {
            long[] numbers = new long[5];
            for (int i = 0; i < 20; i++) {
                int sign = at + i < bytes.length ? bytes[at + i] & 255 : 32;
                numbers[i / 4] = (int) (numbers[i / 4] << 8 | sign);
            }
            check("feed", numbers);
            calls++;
        }
        check("end", Math.min(400, bytes.length));
        check("base");
        check("fault", 0);
        check("fault", 1);
        return calls + 5;
    }

    // ---- one call

    private void check(String name, long... numbers) throws ReflectiveOperationException {
        CALLED.merge(name, 1, Integer::sum);
        String call = name + Arrays.toString(numbers);
        told.add(call);
        long due = model.call(name, numbers);
        long got;
        try {
            got = ask(name, numbers);
        } catch (InvocationTargetException thrown) {
            wrong++;
            System.out.println("run " + run + ": " + call + " threw " + thrown.getCause());
            return;
        }
        if (got != due) {
            wrong++;
            System.out.println("run " + run + ", call " + told.size() + ": " + call + " answered " + got + ", due is "
                    + due);
        }
    }

    private long ask(String name, long[] numbers) throws ReflectiveOperationException {
        for (Method method : methods) {
            if (method.getName().equals(name)) {
                Object[] values = new Object[numbers.length];
                for (int i = 0; i < numbers.length; i++) {
                    boolean wide = method.getParameterTypes()[i] == long.class;
                    values[i] = wide ? (Object) numbers[i] : (Object) (int) numbers[i];
                }
                return ((Number) method.invoke(judge, values)).longValue();
            }
        }
        throw new IllegalArgumentException(name);
    }
}
