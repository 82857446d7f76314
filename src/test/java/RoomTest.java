import java.lang.reflect.Array;
import java.lang.reflect.Field;
import java.lang.reflect.Method;
import java.lang.reflect.Modifier;
import java.util.Arrays;
import java.util.Collections;
import java.util.Comparator;
import java.util.IdentityHashMap;
import java.util.Random;
import java.util.Set;

/** What one object takes up of the room that all calls of a run share, and that no call makes it more. */
public final class RoomTest {
    private static final int OBJECTS_IN_ALL = 600_000;
    private static final int PARTS_IN_ALL = 7_300_000;
    private static final int CALLS = 512;
    private static final int RUNS = 40;

    private final Check check = new Check();
    private Set<Object> seen;
    private int parts;

    public static void main(String[] args) throws IllegalAccessException {
        RoomTest t = new RoomTest();
        t.manyObjects();
        for (int run = 0; run < RUNS; run++) {
            t.staysAsMade(new Random(run));
        }
        t.check.close("RoomTest");
    }

    /** Even a run that makes a new object at each of its calls has room. */
    private void manyObjects() throws IllegalAccessException {
        Set<Object> objects = look(new CandleEnds());
        check.due(objects.size() + " objects", objects.size() * CALLS < OBJECTS_IN_ALL, true);
        check.due(parts + " fields and elements", parts * CALLS < PARTS_IN_ALL, true);
    }

    private void staysAsMade(Random random) throws IllegalAccessException {
        CandleEnds x = new CandleEnds();
        Set<Object> ahead = look(x);
        int partsAhead = parts;
        x.house(random.nextInt(10), 500);
        x.house(random.nextInt(10), 500);
        x.candle(1 + random.nextInt(9), 12);
        x.candle(1 + random.nextInt(9), 12);
        Tape.ruledBy(x, "price inch;out draught/2;buy 0 of 0 for 1;buy 1 of 0 for 0;light 0;burn 0;moths 9;");
        Method[] methods = Arrays.stream(CandleEnds.class.getDeclaredMethods())
            .filter(m -> Modifier.isPublic(m.getModifiers())).sorted(Comparator.comparing(Method::getName))
            .toArray(Method[]::new);
        for (int call = 20; call < CALLS; call++) {
            one(x, methods[random.nextInt(methods.length)], random);
        }
        Set<Object> behind = look(x);
        check.due("objects behind 512 calls", behind.size(), ahead.size());
        check.due("none is a new one", ahead.containsAll(behind), true);
        check.due("fields and elements behind 512 calls", parts, partsAhead);
    }

    private static void one(CandleEnds x, Method m, Random random) throws IllegalAccessException {
        Object[] arguments = new Object[m.getParameterCount()];
        for (int i = 0; i < arguments.length; i++) {
            boolean isFlag = m.getParameterTypes()[i] == boolean.class;
            arguments[i] = isFlag ? (Object) random.nextBoolean() : (Object) random.nextInt(4);
        }
        try {
            m.invoke(x, arguments);
        } catch (java.lang.reflect.InvocationTargetException e) {
            throw new IllegalStateException(m.getName() + Arrays.toString(arguments), e.getCause());
        }
    }

    private Set<Object> look(CandleEnds x) throws IllegalAccessException {
        seen = Collections.newSetFromMap(new IdentityHashMap<>());
        parts = 0;
        count(x);
        return seen;
    }

    private void count(Object one) throws IllegalAccessException {
        if (one == null || !seen.add(one)) {
            return;
        }
        if (one.getClass().isArray()) {
            int length = Array.getLength(one);
            parts += length;
            for (int i = 0; i < length && !one.getClass().getComponentType().isPrimitive(); i++) {
                count(Array.get(one, i));
            }
            return;
        }
        for (Field f : one.getClass().getDeclaredFields()) {
            if (!Modifier.isStatic(f.getModifiers())) {
                parts++;
                f.setAccessible(true);
                if (!f.getType().isPrimitive()) {
                    count(f.get(one));
                }
            }
        }
    }
}
