import java.lang.reflect.Method;
import java.util.ArrayList;
import java.util.Comparator;
import java.util.List;
import java.util.Random;

/**
 * Rules 7 and 13 of ../shared/LANGUAGE.md: any calls with any numbers, far more than an object is good for:
 * none throws, and a second object answers the same to the same calls.
 */
public final class AnyCallsTest {
    private static final int CALLS = 200_000;
    private static final int[] FAR = {Integer.MIN_VALUE, Integer.MIN_VALUE + 1, -1002, -1001, -6, -2, -1, 10, 12, 13, 20, 29,
        30, 50, 51, 99, 100, 127, 128, 999, 1000, 65536, Integer.MAX_VALUE - 1, Integer.MAX_VALUE};

    public static void main(String[] args) throws Exception {
        List<Method> face = new ArrayList<>();
        for (Method m : OverFence.class.getMethods()) {
            if (m.getDeclaringClass() == OverFence.class) face.add(m);
        }
        face.sort(Comparator.comparing(Method::getName));
        // An even mixture; then one in which a few calls are much more frequent than the others.
        run(face, new Random(1), face.size());
        for (int seed = 2; seed < 6; seed++) run(face, new Random(seed), 6);
        Check.end();
    }

    private static void run(List<Method> face, Random random, int frequent) throws Exception {
        OverFence x = new OverFence();
        OverFence twin = new OverFence();
        List<Method> some = new ArrayList<>();
        while (some.size() < frequent) some.add(face.get(random.nextInt(face.size())));
        for (int i = 0; i < CALLS; i++) {
            List<Method> from = random.nextInt(3) == 0 ? face : some;
            Method m = from.get(random.nextInt(from.size()));
            if (m.getName().equals("yard") && random.nextBoolean()) feedBoth(x, twin, YardTextTest.someText(random, 60));
            Object[] numbers = new Object[m.getParameterCount()];
            for (int j = 0; j < numbers.length; j++) numbers[j] = number(random);
            long answer = ((Number) m.invoke(x, numbers)).longValue();
            Check.due(m.getName() + " of a second object", ((Number) m.invoke(twin, numbers)).longValue(), answer);
        }
    }

    /** On an empty tape, as one of signs by chance is never a yard. */
    private static void feedBoth(OverFence x, OverFence twin, String text) {
        if (x.count(3) > 0 && x.yard() != twin.yard()) Check.holds("both take their tapes alike", false);
        Check.feed(x, text);
        Check.feed(twin, text);
    }

    private static int number(Random random) {
        int way = random.nextInt(20);
        return way == 0 ? random.nextInt() : way == 1 ? FAR[random.nextInt(FAR.length)] : random.nextInt(10);
    }
}
