import java.lang.reflect.InvocationTargetException;
import java.lang.reflect.Method;
import java.lang.reflect.Modifier;
import java.util.ArrayList;
import java.util.Arrays;
import java.util.Comparator;
import java.util.List;
import java.util.Random;

/** Runs of 512 calls of any method with any numbers, the wildest too: none throws, all are alike. */
public final class WildTest {
    private static final Check CHECK = new Check("WildTest");
    private static final int[] WILD = {Integer.MIN_VALUE, Integer.MIN_VALUE + 1, -2147483638, -65536, -10001, -128,
        -11, -10, -2, -1, 9, 10, 11, 59, 60, 61, 100, 101, 127, 128, 255, 256, 300, 301, 1023, 1024, 10000, 10001,
        32767, 32768, 9999999, 10000000, 1 << 30, Integer.MAX_VALUE - 1, Integer.MAX_VALUE};
    private static final String SIGNS = "mmsvdccchhlgo====;;;..%uet0123456789";

    public static void main(String[] args) throws Exception {
        List<Method> methods = new ArrayList<>();
        for (Method m : ToldFigures.class.getDeclaredMethods()) {
            if (Modifier.isPublic(m.getModifiers())) {
                methods.add(m);
            }
        }
        methods.sort(Comparator.comparing(Method::getName));
        for (int seed = 1; seed <= 60; seed++) {
            run(methods, new Random(seed), seed);
        }
        CHECK.end();
    }

    private static void run(List<Method> methods, Random random, int seed) throws Exception {
        ToldFigures fast = new ToldFigures();
        SlowFigures slow = new SlowFigures();
        int calm = 2 + random.nextInt(20);
        for (int call = 0; call < 512; call++) {
            boolean types = random.nextInt(3) == 0;
            Method m = types ? ToldFigures.class.getDeclaredMethod("type", int.class)
                    : methods.get(random.nextInt(methods.size()));
            if (m.getName().equals("wipe") && random.nextInt(3) != 0) {
                continue;
            }
            Object[] with = new Object[m.getParameterCount()];
            for (int i = 0; i < with.length; i++) {
                with[i] = random.nextInt(calm) == 0 ? WILD[random.nextInt(WILD.length)] : random.nextInt(4);
            }
            if (types && random.nextInt(10) != 0) {
                with[0] = (int) SIGNS.charAt(random.nextInt(SIGNS.length()));
            }
            Method model = SlowFigures.class.getDeclaredMethod(m.getName(), m.getParameterTypes());
            String told = "seed " + seed + ", call " + call + ": " + m.getName() + Arrays.toString(with);
            long want = ((Number) model.invoke(slow, with)).longValue();
            try {
                CHECK.due(told, ((Number) m.invoke(fast, with)).longValue(), want);
            } catch (InvocationTargetException thrown) {
                CHECK.due(told + " threw " + thrown.getCause(), false);
                return;
            }
        }
    }
}
