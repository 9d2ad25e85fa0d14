import java.lang.reflect.InvocationTargetException;
import java.lang.reflect.Method;
import java.lang.reflect.Modifier;
import java.util.Arrays;
import java.util.Comparator;
import java.util.Random;

/** Every call with every edge of a number, in every kind of BASE, held against the Model: nothing throws, all is due. */
public final class WildTest extends Sentences {
    private static final long[] EDGES = {MIN, MIN + 1, -1000000, -4, -3, -2, -1, 0, 1, 2, 3, 4, 5, 6, 8, 9, 10, 15, 16,
        20, 21, 31, 32, 33, 59, 60, 61, 63, 64, 65, 127, 128, 255, 256, 400, 401, 65535, 65536, 1 << 30, 2000000000,
        2000000001, MAX - 1, MAX};
    private static final long[] WIDE = {Long.MIN_VALUE, Long.MAX_VALUE, 1L << 32, (1L << 32) + 3, -1L << 31, 1L << 31,
        (1L << 62) + 1, -1L << 33};
    /** An object is used for 512 calls; telling it a base and doing acts takes some. */
    private static final int MOST_CALLS = 420;
    private static final int MOST_TUPLES = 1500;
    private static final String BUSY = "base top 1 law 2 odds 7;cell add;cell late;cell max;rule sum 0 1 1;rule order 2 1;"
            + "op more 0 1;op more 1 1;op move 2 1 1;";

    private static int calls = 0;
    private static int wrong = 0;

    private final String text;
    private final String[] acts;
    private final Method[] methods;
    private final Random random = new Random(4);
    private MergeJudge judge;
    private Model model;
    private int callsOfObject;

    private WildTest(String text, String... acts) {
        this.text = text;
        this.acts = acts;
        methods = Arrays.stream(MergeJudge.class.getDeclaredMethods())
                .filter(x -> Modifier.isPublic(x.getModifiers()))
                .sorted(Comparator.comparing(Method::getName)).toArray(Method[]::new);
    }

    public static void main(String[] args) throws ReflectiveOperationException {
        new WildTest(null).askAll();
        new WildTest(EMPTY).askAll();
        new WildTest(NO_VALID).askAll();
        new WildTest(EXAMPLE, "lock 1", "drops 0").askAll();
        new WildTest(COUNTER).askAll();
        new WildTest(BUSY).askAll();
        new WildTest(LADDER, acts(20)).askAll();
        new WildTest(FULL).askAll();
        System.out.println(calls + " calls, " + wrong + " wrong");
        if (wrong != 0 || calls < 100000) {
            System.exit(1);
        }
    }

    private static String[] acts(int n) {
        String[] acts = new String[n];
        Arrays.fill(acts, "lock 0");
        return acts;
    }

    private void askAll() throws ReflectiveOperationException {
        for (Method method : methods) {
            renew();
            int params = method.getParameterCount();
            long[] numbers = new long[params];
            if (params < 3) {
                askEvery(method, numbers, 0);
                continue;
            }
            for (int i = 0; i < MOST_TUPLES; i++) {
                for (int k = 0; k < params; k++) {
                    numbers[k] = anyNumber(method.getParameterTypes()[k]);
                }
                ask(method, numbers);
            }
        }
    }

    private void askEvery(Method method, long[] numbers, int at) throws ReflectiveOperationException {
        if (at == numbers.length) {
            ask(method, numbers);
            return;
        }
        for (long edge : EDGES) {
            numbers[at] = edge;
            askEvery(method, numbers, at + 1);
        }
    }

    /** Small numbers more often than others: else nearly all calls with several would be refused by the first one. */
    private long anyNumber(Class<?> type) {
        if (type == long.class && random.nextInt(2) == 0) {
            return WIDE[random.nextInt(WIDE.length)];
        }
        return random.nextInt(3) > 0 ? random.nextInt(5) : EDGES[random.nextInt(EDGES.length)];
    }

    private void renew() {
        judge = new MergeJudge();
        model = new Model();
        callsOfObject = 0;
        if (text != null) {
            tell(judge, text);
            model.tape.append(text);
            model.base();
        }
        for (String act : acts) {
            int number = act.charAt(act.length() - 1) - '0';
            if (act.startsWith("lock")) {
                judge.lock(number);
            } else {
                judge.drops(number);
            }
            model.call(act.substring(0, act.indexOf(' ')), number);
        }
        for (int slot = 0; slot < 3; slot++) {
            int[] sizes = {6, 60, 3};
            judge.row(slot, slot == 2 ? 3 : 0, sizes[slot]);
            model.call("row", slot, slot == 2 ? 3 : 0, sizes[slot]);
        }
    }

    private void ask(Method method, long[] numbers) throws ReflectiveOperationException {
        callsOfObject++;
        if (callsOfObject > MOST_CALLS) {
            renew();
        }
        calls++;
        Object[] values = new Object[numbers.length];
        for (int i = 0; i < values.length; i++) {
            boolean wide = method.getParameterTypes()[i] == long.class;
            values[i] = wide ? (Object) numbers[i] : (Object) (int) numbers[i];
        }
        long want = model.call(method.getName(), numbers);
        try {
            long got = ((Number) method.invoke(judge, values)).longValue();
            if (got != want) {
                complain(method.getName(), numbers, "answered " + got + ", due is " + want);
            }
        } catch (InvocationTargetException thrown) {
            complain(method.getName(), numbers, "threw " + thrown.getCause());
        }
    }

    private void complain(String name, long[] numbers, String what) {
        wrong++;
        if (wrong < 20) {
            System.out.println(text + ": " + name + Arrays.toString(numbers) + " " + what);
        }
    }
}
