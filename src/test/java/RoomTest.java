import java.lang.management.ManagementFactory;
import java.lang.reflect.Array;
import java.lang.reflect.Field;
import java.lang.reflect.Modifier;
import java.util.ArrayDeque;
import java.util.Collections;
import java.util.Deque;
import java.util.IdentityHashMap;
import java.util.Set;

/** What an object holds is small, and the dearest calls make nothing more; no call fails to end in time. */
public final class RoomTest {
    private static final String DENSE = "rule a to b;rule b to c;rule c to a;rule ab to ba;rule bc to cb;rule a to c;rule abc to cba"
            + ";rule b to a;rule c to b;rule aaaa to bbbb;rule ca to ac;rule ba to ab;field abcabcabcabcabcabcab";
    private static final String LAW = "bar if year+rule+place+long+behind+rule+place+long+behind+rule+place+long+behind<0"
            + " or ((((((rule+place+long+behind+rule+place+long+behind<0)))))) or not not not (1<2 and 2<3 and 3<4)";

    public static void main(String[] args) {
        BeastRules x = new BeastRules();
        long[] first = held(x);
        Kit.due("objects at first", true, () -> first[0] < 2000);
        Kit.due("fields and elements at first", true, () -> first[1] < 60000);
        calls(x);
        long before = made();
        for (int i = 0; i < 60; i++) {
            calls(x);
        }
        long after = made();
        // Some 3,000 calls; a few boxes and texts are the test's own.
        Kit.due("bytes made by 60 rounds: " + (after - before), true, () -> after - before < 60 * 4000);
        Kit.due("objects held", first[0], () -> held(x)[0]);
        Kit.due("fields and elements held", first[1], () -> held(x)[1]);
        Kit.finish("RoomTest");
    }

    private static void tell(BeastRules x, String text, boolean valley) {
        for (int at = 0; at < text.length(); at += 20) {
            x.feed(Kit.four(text, at), Kit.four(text, at + 4), Kit.four(text, at + 8), Kit.four(text, at + 12), Kit.four(text, at + 16));
        }
        x.end(text.length());
        if (valley) {
            x.valley();
        } else {
            x.law();
        }
    }

    private static void calls(BeastRules x) {
        if (x.count(3) == 0) {
            x.image();
        }
        x.back();
        tell(x, DENSE, true);
        tell(x, "seen aabaab to aabab;seen baab to bab;first left", true);
        tell(x, LAW, false);
        for (String way : WAYS) {
            tell(x, way, true);
            calls(x, x.field(0));
        }
    }

    private static final String[] WAYS = {"first left", "first right", "first rule", "first all"};

    private static void calls(BeastRules x, long long20) {
        long small = 8 + 7;
        long sum = x.run(0, 200) + x.years(0, 200) + x.settles(long20, 500, true) + x.again(long20, true) + x.endless();
        sum += x.becomes(small, 40, 3) + x.fewest(long20, small) + x.meets(small, 8, 12, true) + x.drovers(8 * 8 * 8, 8);
        sum += x.best(8 * 8 * 8, 8) + x.overlaps(1) + x.never(8, 64, 0) + x.falls(5, 0) + x.dropped(63);
        sum += x.telling() + x.guessed(0) + x.reckons(0, 4) + x.reckons(1, 4) + x.put(0, small) + x.drop(0) + x.add(8, 8);
        for (int i = 0; i < 20; i++) {
            sum += x.undo() ? 1 : 0;
        }
        x.put(0, long20);
        if (sum == 42) {
            System.out.println();
        }
    }

    private static long made() {
        return ((com.sun.management.ThreadMXBean) ManagementFactory.getThreadMXBean()).getThreadAllocatedBytes(Thread.currentThread().getId());
    }

    /** Objects and arrays, and all their fields and elements. */
    private static long[] held(Object root) {
        Set<Object> known = Collections.newSetFromMap(new IdentityHashMap<>());
        Deque<Object> next = new ArrayDeque<>();
        next.add(root);
        known.add(root);
        long parts = 0;
        try {
            while (!next.isEmpty()) {
                Object here = next.remove();
                if (here.getClass().isArray()) {
                    parts += Array.getLength(here);
                    for (int i = 0; i < Array.getLength(here) && here instanceof Object[]; i++) {
                        follow(((Object[]) here)[i], known, next);
                    }
                    continue;
                }
                for (Field field : here.getClass().getDeclaredFields()) {
                    if (!Modifier.isStatic(field.getModifiers())) {
                        parts++;
                        field.setAccessible(true);
                        if (!field.getType().isPrimitive()) {
                            follow(field.get(here), known, next);
                        }
                    }
                }
            }
        } catch (IllegalAccessException never) {
            throw new IllegalStateException(never);
        }
        return new long[] {known.size(), parts};
    }

    private static void follow(Object part, Set<Object> known, Deque<Object> next) {
        if (part != null && known.add(part)) {
            next.add(part);
        }
    }
}
