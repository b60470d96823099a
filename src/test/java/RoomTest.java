import java.lang.management.ManagementFactory;
import java.lang.reflect.Array;
import java.lang.reflect.Field;
import java.lang.reflect.Modifier;
import java.util.ArrayDeque;
import java.util.Collections;
import java.util.Deque;
import java.util.IdentityHashMap;
import java.util.Set;

/** The room in which all calls of a run live: what an object takes, and that calls use it again. */
public final class RoomTest {
    // The room's limits, for a run whose calls are all the dearest one: a new object.
    private static final int RUN = 513;
    private static final int MOST_OBJECTS = 600_000 / RUN;
    private static final int MOST_PLACES = 7_300_000 / RUN;
    private static final Due DUE = new Due();

    private int objects = 0;
    private int places = 0;

    public static void main(String[] args) throws Exception {
        newObject();
        fullObject();
        usedAgain();
        DUE.close("RoomTest");
    }

    private static void newObject() throws Exception {
        RoomTest room = of(new EachLater());
        System.out.println("a new object: " + room.objects + " objects, " + room.places + " fields and elements");
        DUE.is("a new object's objects fit a run of these", room.objects <= MOST_OBJECTS, true);
        DUE.is("its fields and elements, too", room.places <= MOST_PLACES, true);
    }

    private static void fullObject() throws Exception {
        EachLater x = new EachLater();
        String longest = "lean 1" + "+1".repeat(59);
        for (int i = 0; i < 10; i++) {
            DUE.is("law " + i, Texts.law(x, longest), i);
        }
        for (int k = 0; k < 4; k++) {
            x.mark(k);
        }
        RoomTest room = of(x);
        System.out.println("with all marks and laws: " + room.objects + " objects, " + room.places
            + " fields and elements");
        DUE.is("a full object's fields and elements", room.places <= 3 * MOST_PLACES, true);
    }

    /** All that hangs on an object, itself too. */
    private static RoomTest of(Object root) throws Exception {
        RoomTest room = new RoomTest();
        Set<Object> met = Collections.newSetFromMap(new IdentityHashMap<>());
        Deque<Object> open = new ArrayDeque<>();
        open.add(root);
        met.add(root);
        while (!open.isEmpty()) {
            Object at = open.remove();
            room.objects++;
            if (at.getClass().isArray()) {
                room.places += Array.getLength(at);
                for (int i = 0; at instanceof Object[] && i < Array.getLength(at); i++) {
                    follow(Array.get(at, i), met, open);
                }
            } else {
                room.fields(at, met, open);
            }
        }
        return room;
    }

    private void fields(Object at, Set<Object> met, Deque<Object> open) throws Exception {
        for (Field f : at.getClass().getDeclaredFields()) {
            if (!Modifier.isStatic(f.getModifiers())) {
                places++;
                f.setAccessible(true);
                if (!f.getType().isPrimitive()) {
                    follow(f.get(at), met, open);
                }
            }
        }
    }

    private static void follow(Object next, Set<Object> met, Deque<Object> open) {
        if (next != null && met.add(next)) {
            open.add(next);
        }
    }

    private static void usedAgain() {
        if (ManagementFactory.getThreadMXBean() instanceof com.sun.management.ThreadMXBean bean
            && bean.isThreadAllocatedMemorySupported()) {
            long together = ask(filled());
            EachLater x = filled();
            long before = bean.getCurrentThreadAllocatedBytes();
            together -= ask(x);
            long after = bean.getCurrentThreadAllocatedBytes();
            DUE.is("bytes that calls make on an object with its marks made", after - before, 0);
            DUE.is("answers of two objects alike", together, 0);
        }
    }

    private static EachLater filled() {
        EachLater x = new EachLater();
        for (int i = 0; i < 4; i++) {
            x.observer(0);
            x.mark(i);
        }
        x.star(1, 10, 0);
        x.night(0, 0);
        x.night(1, 0);
        Texts.law(x, "lean 1000 if thread < 3");
        for (int i = 0; i < 30; i++) {
            x.record(i % 2, 0, i % 5, i % 4, i % 3, 50 * i, -1);
        }
        x.record(0, 0, 0, 0, 3, 100, 95);
        Texts.feed(x, "lean 1 if");
        return x;
    }

    private static long ask(EachLater x) {
        long all = (x.clock(1) ? 1 : 0) + x.observer(5) + x.star(1, 1, 1) + x.night(0, 1) + x.record(0, 0, 1, 4, 0, 9, -1);
        all += (x.strike(3) ? 1 : 0) + x.seen(0, 0, 0, 0, 1, 1) + x.gives(0, 0) + x.two(0, 2, 1, 3) + x.rope(0, 3, 1, 2);
        all += x.knot(0, 2, 1, 1) + x.far(0, 1) + x.own(0, 0, 1, 1) + x.left(0, 0, 1) + x.best(0, 1, 5, 1);
        all += x.scatter(0, 1) + x.finest(1) + x.moved(0, 0, 0, 0, 2, 1, 0) + x.longitude(0, 1, 1, 0);
        all += x.journey(0, 1, 3) + x.tied(1) + x.plan(9, 0) + x.next() + x.said(0, 2, 1, 0) + (x.leans(0, 0) ? 1 : 0);
        all += x.later(0, 2, 7, 3, 50) + x.law() + x.feed(1, 2, 3, 4, 5) + x.end(2);
        return all + x.mark(2) + x.back(1) + x.back(2) + x.count(4);
    }
}
