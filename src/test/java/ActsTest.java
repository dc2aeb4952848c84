/** Promises 24 to 29: act, trace, as, image, undo, count. */
public final class ActsTest {
    public static void main(String[] args) {
        acts();
        actRefused();
        as();
        image();
        imageOfYardsAndTape();
        count();
        Check.end();
    }

    private static void acts(OverFence x, int boy, int act, int arg, int due, int... bodies) {
        String what = "act " + act + " of " + boy + " with " + arg;
        Check.due(what, x.act(boy, act, arg), due);
        Check.due(what + ": bodies", x.count(4), bodies.length);
        for (int i = 0; i < bodies.length; i++) Check.due(what + ": body " + i, x.trace(i), bodies[i]);
        Check.due(what + ": behind the last", x.trace(bodies.length), -1);
        Check.due(what + ": ahead of the first", x.trace(-1), -1);
    }

    private static void acts() {
        OverFence x = new OverFence();
        x.boy(0, 5);
        x.boy(0, 3);
        acts(x, 0, 0, 7, 7, 1);
        acts(x, 1, 0, 7, 8, 1);
        acts(x, 1, 1, 7, 5, 2, 1);
        acts(x, 1, 2, 7, 10, 3, 2, 1);
        acts(x, 1, 0, Integer.MAX_VALUE, Integer.MIN_VALUE, 1);
        x.boy(1, 4);
        acts(x, 2, 0, 7, 23, 11, 1);
        acts(x, 2, 1, 7, 19, 2, 11, 1);
        acts(x, 2, 2, 7, 38, 3, 2, 11, 1);
        acts(x, 2, 0, 1 << 30, 3 * (1 << 30) + 2, 11, 1);
        x.boy(2, 4);
        acts(x, 3, 0, 7, 10, 1);
        acts(x, 3, 1, 7, -6, 21, 2, 1);
        acts(x, 3, 2, 7, -12, 3, 21, 2, 1);
        x.boy(3, 4);
        acts(x, 4, 0, 7, 11, 1);
        acts(x, 4, 1, 7, 7, 2, 1);
        acts(x, 4, 2, 7, 14 ^ 7, 31, 3, 2, 1);
        x = new OverFence();
        for (int kind = 2; kind < 7; kind++) x.boy(kind, kind + 1);
        acts(x, 2, 0, 7, 23, 11, 1);
        acts(x, 2, 1, 7, 18, 2, 11, 1);
        acts(x, 2, 2, 7, (6 * 3 + 2 - 5) * 2 + 8, 41, 3, 2, 11, 1, 11, 1);
        acts(x, 3, 0, 7, 10 ^ 3, 51, 1);
        acts(x, 3, 1, 7, -((10 ^ 3) - 6), 21, 2, 51, 1);
        acts(x, 3, 2, 7, -((10 ^ 3) - 6) * 2, 3, 21, 2, 51, 1);
        acts(x, 4, 0, 7, 11, 1);
        acts(x, 4, 1, 7, 11 - 7 + 7, 61, 2, 1);
        acts(x, 4, 2, 7, 22 ^ 7, 31, 3, 61, 2, 1);
        acts(x, 4, 2, Integer.MIN_VALUE, 8 ^ 7, 31, 3, 61, 2, 1);
    }

    private static void actRefused() {
        OverFence x = new OverFence();
        Check.due("nobody", x.act(0, 0, 5), 0);
        x.boy(0, 0);
        int[][] wrong = {{-1, 0}, {1, 0}, {0, -1}, {0, 3}};
        for (int[] w : wrong) {
            x.act(0, 2, 5);
            Check.due("a trace", x.count(4), 3);
            Check.due("no such boy, act", x.act(w[0], w[1], 5), 0);
            Check.due("no trace then", x.count(4), 0);
            Check.due("no body", x.trace(0), -1);
        }
        x.act(0, 2, 5);
        Check.due("a 4th body", x.trace(3), -1);
        Check.due("far behind", x.trace(Integer.MAX_VALUE), -1);
        Check.due("far ahead", x.trace(Integer.MIN_VALUE), -1);
    }

    private static void as() {
        int[] above = {-1, 0, 0, 0, 1, 2, 3};
        for (int kind = 0; kind < 7; kind++) {
            OverFence x = new OverFence();
            x.boy(kind, 8);
            boolean[] taken = new boolean[7];
            for (int k = kind; k >= 0; k = above[k]) taken[k] = true;
            for (int k = 0; k < 7; k++) Check.due("kind " + kind + " as " + k, x.as(0, k), taken[k] ? 8 : -6);
            String before = Check.seen(x);
            Check.refused(x, before, "k -1", x.as(0, -1), -1);
            Check.refused(x, before, "k 7", x.as(0, 7), -1);
            Check.refused(x, before, "boy 1", x.as(1, 0), -1);
            Check.refused(x, before, "boy -1", x.as(-1, 0), -1);
        }
    }

    private static void image() {
        OverFence x = new OverFence();
        String before = Check.seen(x);
        Check.refused(x, before, "no image", x.undo(), -3);
        x.boy(4, 3);
        x.boy(3, 9);
        x.bed(2, 2);
        for (int what = 0; what < 5; what++) x.set(what, what + 1 > 3 ? 9 : what + 1);
        x.set(1, 0);
        x.kick(0, 9);
        x.kick(1, 1);
        x.night();
        x.kick(0, 9);
        x.tale(0, 1, 2);
        x.act(0, 0, 1);
        before = Check.seen(x);
        Check.due("image", x.image(), 2);
        Check.holds("an image changes nothing", before.equals(Check.seen(x)));
        for (int time = 0; time < 3; time++) {
            x.boy(6, 6);
            for (int bed = 0; bed < 10; bed++) x.bed(bed, 2);
            for (int aim = 0; aim < 10; aim++) x.kick(0, aim);
            for (int what = 0; what < 5; what++) x.set(what, 0);
            x.night();
            x.tale(1, 1, 1);
            Check.yardOf(x, "wall 77;lift 9 a>1");
            Check.holds("much is otherwise", !before.equals(Check.seen(x)));
            Check.due("undo", x.undo(), 2);
            Check.holds("all is as the image", before.equals(Check.seen(x)));
        }
        x.boy(5, 5);
        Check.due("a newer image", x.image(), 3);
        x.boy(5, 5);
        Check.due("the newer image", x.undo(), 3);
        x.act(0, 2, 1);
        Check.due("undo again", x.undo(), 3);
        Check.due("the trace stays", x.count(4), 7);
        Check.due("the trace's first", x.trace(0), 41);
    }

    private static void imageOfYardsAndTape() {
        OverFence x = new OverFence();
        x.boy(0, 0);
        Check.yardOf(x, "wall 3;lift 7 a=3;supper 2");
        Check.feed(x, "wall");
        x.tale(0, 3, 0);
        x.image();
        Check.feed(x, " 8");
        Check.due("another yard", x.yard(), 1);
        Check.feed(x, "duck 3 a=3;duck 4 a=4");
        x.tale(-1, 0, 0);
        x.undo();
        Check.due("yards", x.count(1), 1);
        Check.due("signs", x.count(3), 4);
        Check.due("tales", x.count(2), 1);
        Check.due("the tale", x.looked(), 0);
        Check.due("wall", x.told(10), 3);
        Check.due("supper", x.told(11), 2);
        Check.due("height", x.height(0, 3), 10);
        Check.feed(x, " 6");
        Check.due("the tape goes on", x.yard(), 1);
        Check.due("its wall", x.told(10), 6);
        OverFence nobody = new OverFence();
        Check.due("an image of nobody", nobody.image(), 0);
        nobody.boy(0, 0);
        Check.due("nobody again", nobody.undo(), 0);
        Check.due("no boy", nobody.of(0, 0), -1);
        Check.due("the first again", nobody.boy(2, 2), 0);
        Check.due("he is new", nobody.of(0, 0), 2);
    }

    private static void count() {
        OverFence x = new OverFence();
        x.boy(4, 0);
        x.boy(0, 0);
        Check.yardOf(x, "wall 1");
        Check.yardOf(x, "wall 2");
        Check.yardOf(x, "wall 3");
        for (int i = 0; i < 4; i++) x.tale(0, 0, 0);
        Check.feed(x, "lift ");
        x.act(0, 2, 0);
        int[] due = {2, 3, 4, 5, 7};
        for (int what = 0; what < 5; what++) Check.due("count " + what, x.count(what), due[what]);
        Check.due("count -1", x.count(-1), -1);
        Check.due("count 5", x.count(5), -1);
    }
}
