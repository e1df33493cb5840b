import java.lang.management.ManagementFactory;
import java.lang.reflect.Array;
import java.lang.reflect.Field;
import java.lang.reflect.Modifier;
import java.util.IdentityHashMap;
import java.util.Map;
import java.util.NoSuchElementException;

/** The room of a run: what a new object takes is small, and calls make nothing more. */
public final class RoomTest {
    private static final Due DUE = new Due("RoomTest");
    private static final Map<Object, Boolean> SEEN = new IdentityHashMap<>();
    private static long elements = 0;

    public static void main(String[] args) throws IllegalAccessException {
        count(new RulerWord());
        DUE.is("objects and arrays of a new one are some 250: " + SEEN.size(), SEEN.size() <= 260, true);
        DUE.is("fields and elements of a new one are some 8,000: " + elements, elements <= 8000, true);
        callsMakeNothing();
        DUE.end();
    }

    private static void count(Object it) throws IllegalAccessException {
        if (it == null || it instanceof String || SEEN.put(it, true) != null) {
            return;
        }
        if (it.getClass().isArray()) {
            elements += Array.getLength(it);
            for (int i = 0; it instanceof Object[] && i < Array.getLength(it); i++) {
                count(Array.get(it, i));
            }
            return;
        }
        for (Class<?> kind = it.getClass(); kind != Object.class; kind = kind.getSuperclass()) {
            for (Field field : kind.getDeclaredFields()) {
                if (!Modifier.isStatic(field.getModifiers())) {
                    elements++;
                    field.setAccessible(true);
                    if (!field.getType().isPrimitive()) {
                        count(field.get(it));
                    }
                }
            }
        }
    }

    private static void callsMakeNothing() {
        if (!(ManagementFactory.getThreadMXBean() instanceof com.sun.management.ThreadMXBean threads)) {
            System.out.println("RoomTest: this machine doesn't count what a thread makes");
            return;
        }
        RulerWord x = Due.of("queen;size 5;bound 1;phases 2;starts 01101;false 1;skip", "round 0 split;draw", 3);
        long me = Thread.currentThread().getId();
        // The machine itself makes things when code runs for the first time.
        for (int i = 0; i < 20; i++) {
            allCalls(x);
        }
        long before = threads.getThreadAllocatedBytes(me);
        long between = threads.getThreadAllocatedBytes(me);
        for (int i = 0; i < 100; i++) {
            allCalls(x);
        }
        long after = threads.getThreadAllocatedBytes(me);
        DUE.is("bytes made by 100 rows of all calls", after - between - (between - before), 0);
    }

    private static void allCalls(RulerWord x) {
        x.undo();
        x.back();
        x.end(0);
        x.feed(0x64726177, 0, 0, 0, 0);
        x.fault(0);
        x.plan();
        // "king;size 4;false 3;starts 0110"
        x.feed(0x6b696e67, 0x3b73697a, 0x6520343b, 0x66616c73, 0x6520333b);
        x.feed(0x73746172, 0x74732030, 0x31313000, 0, 0);
        x.fault(1);
        x.council(9);
        x.say(0, 0, 3, 1, 2);
        x.starts(3);
        x.falseOnes(8);
        x.image();
        x.round();
        x.run();
        look(x);
        ask(x);
    }

    private static void look(RulerWord x) {
        for (int k = -1; k < 12; k++) {
            x.rule(k);
            x.heard(0, 0, 3, k);
            x.peer(k, 0);
            x.peer(k, 1);
            x.told(1, 0, k);
            x.state(k);
            x.letters(k);
            x.ruled(0, k);
            x.shown(0, k);
            x.status(k);
            x.most(k);
            x.count(k);
        }
        x.agreed();
        x.trueRuler();
        x.greatest(0, 9);
        try {
            x.line(0, 4);
        } catch (NoSuchElementException e) {
            DUE.is("line(0, 4) throws", true, false);
        }
    }

    private static void ask(RulerWord x) {
        x.free();
        x.broken();
        x.brokenStarts(0);
        x.canBreak(0);
        x.brokenPlan(-1);
        x.weakest();
        x.held(1, 1);
        x.needed();
        for (int k = 0; k < 4; k++) {
            x.asOthers(k);
            x.byChance(3, 5, k);
        }
    }
}
