import java.lang.reflect.InvocationTargetException;
import java.lang.reflect.Method;
import java.util.Arrays;
import java.util.Comparator;
import java.util.Random;

/** Calls with arguments from everywhere, in any state: none may throw. */
public final class WildTest {
    private static final int RUNS = 1500;
    private static final int CALLS = 512;
    private static final int[] EDGES = {
        Integer.MIN_VALUE, Integer.MIN_VALUE + 1, -1000, -256, -2, -1, 0, 1, 2, 3, 4, 5, 6, 7, 8, 9, 10, 11, 12, 13, 21,
        22, 30, 31, 63, 64, 72, 99, 100, 127, 255, 256, 281, 300, 301, 999, 1000, 9999, 10000, 30011, 65536,
        Integer.MAX_VALUE - 1, Integer.MAX_VALUE
    };
    private static final String[] TEXTS = {
        "price wax*wax*wax/debt;burns -9999*9999*inch;tears house/(inch-1);out (draught-thick)*length;",
        "buy 0 of 0 for 0;buy 1 of 0 for 1;light 0;burn 0;burn 0;moths 30;", "price ((((((((1))))))));", "price (((((((((",
        "out 0-out;", "\u0000\u00ff", "burn 0;burn 0;burn 0;burn 0;burn 0;burn 0;burn 0;"
    };

    private WildTest() {
    }

    public static void main(String[] args) throws IllegalAccessException {
        Method[] methods = CandleEnds.class.getDeclaredMethods();
        methods = Arrays.stream(methods).filter(m -> java.lang.reflect.Modifier.isPublic(m.getModifiers()))
            .sorted(Comparator.comparing(Method::getName)).toArray(Method[]::new);
        Check check = new Check();
        check.due("methods of the face", methods.length, 30);
        for (int run = 0; run < RUNS && !check.failed(); run++) {
            wildRun(new Random(run), methods, check);
        }
        check.close("WildTest");
    }

    private static void wildRun(Random random, Method[] methods, Check check) throws IllegalAccessException {
        CandleEnds x = new CandleEnds();
        for (int call = 0; call < CALLS; call++) {
            if (random.nextInt(40) == 0) {
                Tape.put(x, TEXTS[random.nextInt(TEXTS.length)]);
            }
            Method m = methods[random.nextInt(methods.length)];
            Object[] arguments = new Object[m.getParameterCount()];
            for (int i = 0; i < arguments.length; i++) {
                boolean isFlag = m.getParameterTypes()[i] == boolean.class;
                arguments[i] = isFlag ? (Object) random.nextBoolean() : (Object) someInt(random);
            }
            String told = m.getName() + Arrays.toString(arguments);
            try {
                m.invoke(x, arguments);
                check.due(told, 0, 0);
            } catch (InvocationTargetException e) {
                check.due(told + " threw " + e.getCause(), 1, 0);
            }
        }
    }

    private static int someInt(Random random) {
        int kind = random.nextInt(10);
        return kind == 0 ? random.nextInt() : kind < 5 ? random.nextInt(4) : EDGES[random.nextInt(EDGES.length)];
    }
}
