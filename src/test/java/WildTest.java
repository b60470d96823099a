import java.lang.reflect.InvocationTargetException;
import java.lang.reflect.Method;
import java.util.Arrays;
import java.util.Comparator;
import java.util.Random;

/** Any numbers in any state: no call throws, and the same calls give the same answers. */
public final class WildTest {
    private static final int[] EDGES = {Integer.MIN_VALUE, Integer.MIN_VALUE + 1, -5001, -5000, -2, -1, 0, 1, 2, 3, 4, 5,
        7, 8, 9, 10, 15, 16, 23, 24, 79, 80, 99, 100, 192, 193, 399, 400, 511, 512, 900, 901, 999, 1000, 9999, 10000,
        65535, Integer.MAX_VALUE - 1, Integer.MAX_VALUE};
    private static final Due DUE = new Due();

    public static void main(String[] args) throws Exception {
        Method[] all = Arrays.stream(EachLater.class.getMethods())
            .filter(m -> m.getDeclaringClass() == EachLater.class).toArray(Method[]::new);
        Arrays.sort(all, Comparator.comparing(Method::getName));
        for (long seed = 0; seed < 300; seed++) {
            DUE.is("answers of seed " + seed, answers(all, seed), answers(all, seed));
        }
        DUE.close("WildTest");
    }

    private static long answers(Method[] all, long seed) throws Exception {
        Random draw = new Random(seed);
        EachLater x = new EachLater();
        int calls = fill(x, draw, (int) (seed % 3) * 190);
        long together = 0;
        for (; calls < 512; calls++) {
            Method m = all[draw.nextInt(all.length)];
            Object[] numbers = new Object[m.getParameterCount()];
            for (int i = 0; i < numbers.length; i++) {
                numbers[i] = draw.nextInt(3) == 0 ? EDGES[draw.nextInt(EDGES.length)] : draw.nextInt(3);
            }
            together = together * 31 + answer(x, m, numbers);
        }
        return together;
    }

    private static long answer(EachLater x, Method m, Object[] numbers) throws Exception {
        try {
            Object got = m.invoke(x, numbers);
            return got instanceof Boolean b ? (b ? 1 : 0) : ((Number) got).longValue();
        } catch (InvocationTargetException e) {
            DUE.is(m.getName() + Arrays.toString(numbers) + " threw " + e.getCause(), 1, 0);
            return 0;
        }
    }

    private static int fill(EachLater x, Random draw, int records) {
        if (records == 0) {
            return 0;
        }
        for (int i = 0; i < 16; i++) {
            x.observer(i);
        }
        for (int i = 0; i < 3; i++) {
            x.star(i, 10 + i, 0);
            x.night(i % 2, 0);
        }
        Texts.law(x, "lean 0 - 1000 * thread if way = 1 or star > 1; lean 7");
        for (int i = 0; i < records; i++) {
            int way = draw.nextInt(5);
            x.record(draw.nextInt(3), draw.nextInt(3), draw.nextInt(5), draw.nextInt(16), way, draw.nextInt(10000),
                way == 3 ? 5000 : -1);
        }
        return records + 28;
    }
}
