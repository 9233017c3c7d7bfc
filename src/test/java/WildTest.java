import java.lang.reflect.InvocationTargetException;
import java.lang.reflect.Method;
import java.lang.reflect.Modifier;
import java.util.ArrayList;
import java.util.Comparator;
import java.util.List;
import java.util.Random;

/** No call throws, whatever its numbers and whatever came before. */
public final class WildTest {
    private static final int[] EDGES = {
        Integer.MIN_VALUE, Integer.MIN_VALUE + 1, -1000003, -1000000, -61, -3, -2, -1, 0, 1, 2, 3, 4, 5, 6, 7, 8, 9,
        12, 13, 14, 15, 16, 20, 21, 24, 25, 30, 31, 39, 40, 41, 60, 61, 63, 64, 99, 119, 120, 121, 255, 256, 998, 999,
        1000, 999999, 1000000, Integer.MAX_VALUE - 1, Integer.MAX_VALUE};
    private static final String[] TEXTS = {
        "m11,5,2;w3;w4;w1;v2,6;b9,3;h4,8;d8,4;s6,1;v0,6;", "m5,0,0;w2;s0,1;",
        "m15,7,4;w4;w0;w3;w1;w2;w4;v7,20;b7,20;h7,20;d7,20;s0,20;s14,20;", "m5,4,4;w0;w4;d4,1;h0,20;",
        "m15,14,4;w4;w4;w4;w4;w4;w4;w", "m99", ""};
    private static final Check check = new Check();

    public static void main(String[] args) throws IllegalAccessException {
        List<Method> calls = calls();
        for (int seed = 0; seed < 400; seed++) {
            Random random = new Random(seed);
            MillTalk x = new MillTalk();
            for (int i = 0; i < 450; i++) {
                if (random.nextInt(100) == 0 || i == 50) {
                    Check.tell(x, TEXTS[random.nextInt(TEXTS.length)]);
                }
                Method call = calls.get(random.nextInt(calls.size()));
                wild(x, call, random, seed);
            }
        }
        check.end();
    }

    private static List<Method> calls() {
        List<Method> calls = new ArrayList<>();
        for (Method m : MillTalk.class.getDeclaredMethods()) {
            if (Modifier.isPublic(m.getModifiers())) {
                calls.add(m);
            }
        }
        calls.sort(Comparator.comparing(Method::getName));
        check.due("public methods", calls.size(), 37);
        return calls;
    }

    private static void wild(MillTalk x, Method call, Random random, int seed) throws IllegalAccessException {
        Object[] numbers = new Object[call.getParameterCount()];
        int from = random.nextBoolean() ? 0 : 7;
        for (int i = 0; i < numbers.length; i++) {
            numbers[i] = EDGES[from + random.nextInt(from == 0 ? EDGES.length : 12)];
        }
        try {
            call.invoke(x, numbers);
        } catch (InvocationTargetException e) {
            check.due("seed " + seed + ", " + call.getName() + " threw " + e.getCause(), 1, 0);
        }
    }
}
