import com.sun.management.ThreadMXBean;
import java.lang.management.ManagementFactory;
import java.lang.reflect.Field;
import java.lang.reflect.Modifier;
import java.util.IdentityHashMap;

/** The room: an object is small, calls make no objects, and the dearest calls end soon. */
public final class RoomTest extends Sentences {
    private static final String DEAREST = "base top 3 law 2 odds 5;cell add;cell late;cell max;rule sum 0 1 5;"
            + "rule sum 1 2 5;rule sum 0 2 5;rule if 0 3 1 1;rule unlike 0 2;"
            + "op more 0 1;op more 1 1;op more 2 1;op less 0 1;op move 1 2 1;";
    private static final int MOST_ELEMENTS = 10000;

    public static void main(String[] args) throws ReflectiveOperationException {
        MergeJudge x = new MergeJudge();
        int elements = elementsOf(x, new IdentityHashMap<>());
        boolean small = elements < MOST_ELEMENTS;
        if (tell(x, DEAREST) != 14) {
            System.exit(1);
        }
        everything(x);
        ThreadMXBean counter = (ThreadMXBean) ManagementFactory.getThreadMXBean();
        long id = Thread.currentThread().getId();
        long nothing = -counter.getThreadAllocatedBytes(id) + counter.getThreadAllocatedBytes(id);
        long before = counter.getThreadAllocatedBytes(id);
        long start = System.nanoTime();
        for (int i = 0; i < 8; i++) {
            everything(x);
        }
        long millis = (System.nanoTime() - start) / 1000000;
        long made = counter.getThreadAllocatedBytes(id) - before - nothing;
        System.out.println(elements + " fields and elements, " + made + " bytes made by 8 rounds, " + millis + " ms");
        if (!small || made > 4096) {
            System.exit(1);
        }
    }

    private static long everything(MergeJudge x) {
        long sum = x.image(0) + x.back(0) + x.row(0, 3, 60) + x.fits(0) + x.laws(0) + x.paste(0, 0, 0, 1, 59);
        for (int d = 0; d <= 3; d++) {
            sum += x.all(d) + x.pairs(d) + x.safe(d) + x.least(d, 0) + x.culprit(d) + x.hits(0, d) + x.worst(d)
                    + x.fine(d) + x.fewest(d) + x.locks(d) + x.needed(d) + x.bare(d) + x.hot(d);
        }
        sum += x.bound() + x.calm(0) + x.blame() + x.cure() + x.law() + x.share(0, 0) + x.rests(0, 1) + x.chance(0)
                + x.mean(0) + x.drawn(5, 1) + x.luck(5, 20) + x.lock(0) + x.drops(0) + x.frees(0) + x.undo()
                + x.anew() + x.table() + x.far(0, 63) + x.step(0, 63) + x.nearest(0) + x.rate(0, 0) + x.rate(0, 2);
        return sum;
    }

    private static int elementsOf(Object object, IdentityHashMap<Object, Object> seen)
            throws ReflectiveOperationException {
        if (object == null || seen.put(object, object) != null) {
            return 0;
        }
        int found = 0;
        if (object.getClass().isArray()) {
            for (int i = 0; i < java.lang.reflect.Array.getLength(object); i++) {
                found++;
                if (object instanceof Object[] row) {
                    found += elementsOf(row[i], seen);
                }
            }
            return found;
        }
        for (Field field : object.getClass().getDeclaredFields()) {
            if (!Modifier.isStatic(field.getModifiers())) {
                field.setAccessible(true);
                found++;
                found += field.getType().isPrimitive() ? 0 : elementsOf(field.get(object), seen);
            }
        }
        return found;
    }
}
