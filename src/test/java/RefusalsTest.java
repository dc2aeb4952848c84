import java.util.function.Supplier;

/**
 * Part 3 of the document, REFUSALS: every argument of every call just outside what it may be,
 * and far outside, alone and with others; of several the first one told; they change nothing.
 */
public final class RefusalsTest {
    private static final long NONE = -1, BAD = -2, STATE = -3, FULL = -4, NO = Long.MIN_VALUE;
    private static final int LEAST = Integer.MIN_VALUE, MOST = Integer.MAX_VALUE;

    /** What an argument may be, and what is answered else. */
    private record Told(int from, int to, long refusal) {
        int[] outside() {
            return new int[] {from - 1, to + 1, LEAST, MOST};
        }
    }

    public static void main(String[] args) {
        arguments();
        toldByHand();
        nobody();
        full();
        withoutAnImage();
        lastDay();
        Check.end();
    }

    // ---- scenes

    private static void kicks(OverFence x, int times) {
        for (int i = 0; i < times; i++) x.kick(i % x.count(0), 9);
    }

    /** Three boys, two yards, a tape in the midst, tales, a trace, and an image of another state. */
    private static OverFence some() {
        OverFence x = new OverFence();
        x.boy(4, 6);
        x.boy(3, 9);
        Check.yardOf(x, "wall 3;supper 14");
        x.bed(5, 2);
        x.tale(1, 2, 3);
        Check.feed(x, "duck 7 a=");
        x.image();
        Check.feed(x, "5|b=1;lift 2 h>3");
        x.yard();
        x.boy(5, 1);
        x.set(3, 40);
        kicks(x, 6);
        x.tale(0, 9, 2);
        x.tale(2, 9, 0);
        x.act(0, 2, 5);
        x.night();
        kicks(x, 1);
        Check.feed(x, "wall 44;supper");
        return x;
    }

    /** All that has a limit is at it, and no ball is in the yard. */
    private static OverFence filled() {
        OverFence x = new OverFence();
        for (int kind = 2; kind < 7; kind++) x.boy(kind, 9);
        for (int i = 0; i < 5; i++) Check.yardOf(x, "wall " + i);
        for (int i = 0; i < 12; i++) x.tale(i % 5, i % 10, i % 5);
        x.image();
        StringBuilder text = new StringBuilder("duck 99 a>99");
        while (text.length() < 100) text.append(text.length() == 96 ? "&b<9" : "&b>1");
        Check.feed(x, text.toString());
        x.act(4, 1, 3);
        x.set(3, 0);
        return x;
    }

    // ---- what is asked of a refused call

    private static void refused(Supplier<OverFence> scene, String call, long due) {
        OverFence x = scene.get();
        Check.due(call, Calls.call(x, call), due);
        Check.holds(call + " changes nothing", Calls.probed(x).equals(Calls.probed(scene.get())));
    }

    private static String text(String name, int[] numbers) {
        StringBuilder text = new StringBuilder(name).append('(');
        for (int i = 0; i < numbers.length; i++) text.append(i > 0 ? ", " : "").append(numbers[i]);
        return text.append(')').toString();
    }

    /** Each argument outside, the others within; then it and all behind it outside: the first one told. */
    private static void outside(String name, Told... told) {
        for (int i = 0; i < told.length; i++) {
            for (int value : told[i].outside()) {
                int[] numbers = new int[told.length];
                for (int j = 0; j < told.length; j++) numbers[j] = told[j].from;
                numbers[i] = value;
                refused(RefusalsTest::some, text(name, numbers), told[i].refusal);
                for (int j = i + 1; j < told.length; j++) numbers[j] = told[j].to + 1;
                refused(RefusalsTest::some, text(name, numbers), told[i].refusal);
            }
        }
        edges(name, told);
    }

    /** The first and the last number that each argument may be are not refused. */
    private static void edges(String name, Told... told) {
        for (int bits = 0; bits < 1 << told.length; bits++) {
            int[] numbers = new int[told.length];
            for (int i = 0; i < told.length; i++) numbers[i] = (bits >> i & 1) == 0 ? told[i].from : told[i].to;
            String call = text(name, numbers);
            long answer = Calls.call(some(), call);
            for (Told t : told) Check.holds(call + " is answered, not with " + answer, answer != t.refusal);
        }
    }

    private static void arguments() {
        Told boy = new Told(0, 2, NONE), aim = new Told(0, 9, BAD);
        Told boyOrNo = new Told(0, 2, NO), part = new Told(0, 1, NO), either = new Told(0, 1, NONE);
        outside("feed", new Told(0, 127, BAD));
        outside("boy", new Told(0, 6, NONE), new Told(0, 9, BAD));
        outside("of", boy, new Told(0, 2, NONE));
        outside("bed", new Told(0, 9, NONE), new Told(0, 3, BAD));
        int[] byHand = {3, 20, 9, 99, 23};
        outside("set", new Told(0, 4, NONE), new Told(0, 3, BAD));
        for (int what = 0; what < 5; what++) {
            for (int n : new Told(0, byHand[what], BAD).outside()) refused(RefusalsTest::some, "set(" + what + ", " + n + ")", BAD);
        }
        outside("height", new Told(0, 2, -1001), new Told(0, 9, -1002));
        outside("falls", boy, aim);
        outside("kick", boy, aim);
        outside("odds", boyOrNo, new Told(0, 4, NO), part);
        outside("turn", either);
        outside("need", new Told(0, 50, BAD));
        outside("bar", either);
        outside("round", new Told(0, 12, NO), new Told(0, 3, NO), part);
        outside("rule", new Told(0, 12, BAD));
        outside("owes", boyOrNo, new Told(0, 2, NO), part);
        outside("who", new Told(0, 9, NONE));
        outside("cover", either);
        outside("trace", new Told(0, 6, NONE));
        outside("as", boy, new Told(0, 6, NONE));
        outside("count", new Told(0, 4, NONE));
    }

    private static void toldByHand() {
        for (int what : new int[] {-1, 12, 13, 19, 30, LEAST, MOST}) refused(RefusalsTest::some, "told(" + what + ")", NONE);
        for (int boy : new int[] {-2, 3, LEAST, MOST}) {
            refused(RefusalsTest::some, "tale(" + boy + ", 0, 0)", NONE);
            refused(RefusalsTest::some, "tale(" + boy + ", 10, 5)", NONE);
        }
        for (int n : new int[] {-1, 10, LEAST, MOST}) refused(RefusalsTest::some, "tale(0, " + n + ", 0)", BAD);
        for (int n : new int[] {-1, 5, LEAST, MOST}) refused(RefusalsTest::some, "tale(0, 9, " + n + ")", BAD);
    }

    /** Without BOYS there is no BOY 0. */
    private static void nobody() {
        String[] none = {"of(0, 0)", "falls(0, 0)", "kick(0, 0)", "tale(0, 0, 0)", "as(0, 0)", "trace(0)"};
        for (String call : none) refused(OverFence::new, call, NONE);
        refused(OverFence::new, "height(0, 0)", -1001);
        refused(OverFence::new, "odds(0, 0, 0)", NO);
        refused(OverFence::new, "owes(0, 0, 0)", NO);
        refused(OverFence::new, "kick(0, 10)", NONE);
    }

    private static void full() {
        Check.due("signs of a whole tape", filled().count(3), 100);
        Supplier<OverFence> scene = RefusalsTest::filled;
        refused(scene, "feed(0)", FULL);
        refused(scene, "feed(127)", FULL);
        refused(scene, "feed(-1)", BAD);
        refused(scene, "feed(128)", BAD);
        refused(scene, "yard()", FULL);
        refused(scene, "boy(0, 0)", FULL);
        refused(scene, "boy(6, 9)", FULL);
        refused(scene, "boy(7, 0)", NONE);
        refused(scene, "boy(0, 10)", BAD);
        refused(scene, "boy(-1, 10)", NONE);
        refused(scene, "tale(0, 0, 0)", FULL);
        refused(scene, "tale(4, 9, 4)", FULL);
        refused(scene, "tale(5, 0, 0)", NONE);
        refused(scene, "tale(0, 10, 0)", BAD);
        refused(scene, "tale(0, 0, 5)", BAD);
        refused(scene, "kick(0, 0)", STATE);
        refused(scene, "kick(4, 9)", STATE);
        refused(scene, "kick(5, 0)", NONE);
        refused(scene, "kick(0, 10)", BAD);
    }

    private static void withoutAnImage() {
        refused(OverFence::new, "undo()", STATE);
        refused(() -> {
            OverFence x = new OverFence();
            x.boy(1, 1);
            Check.yardOf(x, "wall 2");
            return x;
        }, "undo()", STATE);
    }

    /** It takes more calls than are promised to come to the last day; the class answers these too. */
    private static void lastDay() {
        refused(() -> {
            OverFence x = new OverFence();
            x.boy(1, 9);
            for (int day = 1; day <= 999; day++) x.night();
            x.set(2, 0);
            x.kick(0, 9);
            x.set(4, 20);
            return x;
        }, "night()", STATE);
    }
}
