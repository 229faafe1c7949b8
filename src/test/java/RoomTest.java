import com.sun.management.ThreadMXBean;
import java.lang.management.ManagementFactory;
import java.lang.reflect.Array;
import java.lang.reflect.Field;
import java.lang.reflect.Modifier;

/** All calls of a run live in one room: an object is small, and its calls make nothing. */
public final class RoomTest {
    private static final int MOST_OBJECTS = 20;
    private static final int MOST_PLACES = 1200;
    private static final int CALLS = 512;
    /** For what the machine may make by itself; 512 calls that make one object each pass it by far. */
    private static final int MOST_BYTES = 1024;

    private static final Checks checks = new Checks();
    private static int objects = 0;
    private static int places = 0;

    public static void main(String[] args) throws IllegalAccessException {
        count(new AlikeStates());
        System.out.println("one object of AlikeStates: " + objects + " objects, " + places + " places");
        checks.isTrue(objects + " objects are few", objects <= MOST_OBJECTS);
        checks.isTrue(places + " places are few", places <= MOST_PLACES);

        useIt(new AlikeStates());
        AlikeStates x = new AlikeStates();
        ThreadMXBean room = (ThreadMXBean) ManagementFactory.getThreadMXBean();
        room.getCurrentThreadAllocatedBytes();
        long before = room.getCurrentThreadAllocatedBytes();
        useIt(x);
        long bytes = room.getCurrentThreadAllocatedBytes() - before;
        checks.isTrue(bytes + " bytes made by " + CALLS + " calls are few", bytes <= MOST_BYTES);
        checks.end();
    }

    /** Counts an object with its fields, and what hangs on it; the shared ones once for each holder. */
    private static void count(Object o) throws IllegalAccessException {
        objects++;
        if (o.getClass().isArray()) {
            places += Array.getLength(o);
            return;
        }
        for (Field f : o.getClass().getDeclaredFields()) {
            if (!Modifier.isStatic(f.getModifiers())) {
                places++;
                f.setAccessible(true);
                if (!f.getType().isPrimitive() && f.get(o) != null) {
                    countOnce(f, o);
                }
            }
        }
    }

    /** The parts of the object know each other: a part is counted where the object itself holds it. */
    private static void countOnce(Field f, Object holder) throws IllegalAccessException {
        if (f.getType().isArray() || holder instanceof AlikeStates) {
            count(f.get(holder));
        }
    }

    private static int useIt(AlikeStates x) {
        int sum = 0;
        for (int i = 0; i < CALLS; i++) {
            sum += call(x, i, i * 7 % 24, i * 5 % 4, i * 11 % 24);
        }
        return sum;
    }

    private static int call(AlikeStates x, int i, int s, int label, int t) {
        switch (i % 23) {
            case 0: return x.colour(s, label) ? 1 : 0;
            case 1: return x.drop(s, label, t) ? 1 : 0;
            case 2: return i == 500 ? x.clear() : x.moves();
            case 3: return x.alike(s, t) ? 1 : 0;
            case 4: return x.breach(s, t);
            case 5: return x.kinds();
            case 6: return x.kind(s);
            case 7: return x.size(s);
            case 8: return x.reach(s, label);
            case 9: return x.links();
            case 10: return x.covers(s, t) ? 1 : 0;
            case 11: return x.below(s);
            case 12: return x.attacks(s, t);
            case 13: return x.play(s, t);
            case 14: return x.attack(s, t, 0);
            case 15: return x.answer(s, t, 0);
            default: return x.move(s, label, t) ? 1 : 0;
        }
    }
}
