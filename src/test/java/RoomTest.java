import com.sun.management.ThreadMXBean;
import java.lang.management.ManagementFactory;
import java.lang.reflect.Array;
import java.lang.reflect.Field;
import java.lang.reflect.Modifier;
import java.util.IdentityHashMap;

/** All calls of one run live in one room: an object is small, and no call makes anything. */
public final class RoomTest {
    private static int elements = 0;

    public static void main(String[] args) throws IllegalAccessException {
        size();
        callsMakeNothing();
        Check.end("RoomTest");
    }

    private static void size() throws IllegalAccessException {
        IdentityHashMap<Object, Boolean> seen = new IdentityHashMap<>();
        walk(new IceKeys(), seen);
        System.out.println("an object: " + seen.size() + " objects and arrays, " + elements + " fields and elements");
        Check.holds("few objects and arrays: " + seen.size(), seen.size() <= 80);
        Check.holds("few fields and elements: " + elements, elements <= 2000);
    }

    private static void walk(Object o, IdentityHashMap<Object, Boolean> seen) throws IllegalAccessException {
        if (o == null || seen.put(o, true) != null) {
            return;
        }
        if (o.getClass().isArray()) {
            elements += Array.getLength(o);
            if (!o.getClass().getComponentType().isPrimitive()) {
                for (Object item : (Object[]) o) {
                    walk(item, seen);
                }
            }
            return;
        }
        for (Class<?> c = o.getClass(); c != Object.class; c = c.getSuperclass()) {
            for (Field field : c.getDeclaredFields()) {
                if (!Modifier.isStatic(field.getModifiers())) {
                    elements++;
                    field.setAccessible(true);
                    if (!field.getType().isPrimitive()) {
                        walk(field.get(o), seen);
                    }
                }
            }
        }
    }

    private static void callsMakeNothing() {
        ThreadMXBean threads = (ThreadMXBean) ManagementFactory.getThreadMXBean();
        long me = Thread.currentThread().getId();
        IceKeys x = new IceKeys();
        callAll(x);
        threads.getThreadAllocatedBytes(me);
        long before = threads.getThreadAllocatedBytes(me);
        for (int i = 0; i < 100; i++) {
            callAll(x);
        }
        long made = threads.getThreadAllocatedBytes(me) - before;
        // the measure itself may make a little, once
        Check.holds("calls make nothing: " + made + " bytes", made < 4096);
    }

    private static int callAll(IceKeys x) {
        int sum = x.again() + x.gate(0, 0, 5) + x.gate(1, 0, 4) + x.gateOf(0, 0);
        for (int k = 0; k < 6; k++) {
            sum += x.key(k % 5 + 1, 40 + 9 * k, k, k % 2) + x.keyOf(k, 5) + x.keyOf(k, 9) + x.change(k, 2, 3);
        }
        sum += x.remake(0, 1) + x.sun(1, 10) + x.ends(12) + x.anew() + x.state(6);
        // "key if 1<2 and not (teeth < 9 or heat = 3) turn;"
        long[] text = {0x3C31206669207965L << 8 | 0x6BL, 0x746F6E20646E6120L << 8 | 0x32L};
        for (long eight : text) {
            sum += x.feed(eight, 8);
        }
        sum += x.rules() + x.feed(0x2079656BL, 4) + x.feed(0x3B6E727574L, 5) + x.rules();
        sum += x.halt() + x.on(16) + x.when(3) + x.strawFor(2) + x.gateFor(2) + x.gone(2) + x.opens(2);
        sum += x.left(5, 0) + x.bunches(-1) + x.best(4) + x.ith(4, 1) + x.ways(4) + x.order(4, 63) + x.bars(4, 63);
        sum += x.game(4) + x.play(4) + x.report(3, 0, 5, 50) + x.lone(0) + x.liar() + x.seed(5) + x.lot() + x.times(40, 9);
        sum += x.forget() + x.prove(4) + x.row(1, 1) + x.alterRow(1, 1, 5) + x.judge();
        sum += x.sheet(0, 0, 40) + x.write(0, 1, 2) + x.item(0, 0, 1) + x.goAll(0, 0, 2) + x.wouldBe(0, 0, 2);
        sum += x.shelf(0, 0, 2) + x.taken(0, 2) + x.act(0, 3, 5) + x.trace(0) + x.many(0) + x.keep();
        return sum;
    }
}
