/** Promises 1 to 8: a new object, feed, yard, boy, of, bed, set, told. */
public final class YardsBoysBedsTest {
    public static void main(String[] args) {
        newObject();
        feed();
        yard();
        yardsFull();
        boy();
        of();
        bed();
        set();
        told();
        Check.end();
    }

    private static void newObject() {
        OverFence x = new OverFence();
        int[] first = {0, 0, 2, 3, 15, 0, 0, 0, 0, 0, 5, 18};
        for (int what = 0; what < first.length; what++) Check.due("new told " + what, x.told(what), first[what]);
        for (int bed = 0; bed < 10; bed++) Check.due("new bed " + bed, x.told(20 + bed), 0);
        for (int what = 0; what < 5; what++) Check.due("new count " + what, x.count(what), 0);
        Check.due("nobody", x.of(0, 0), -1);
        Check.due("no image", x.undo(), -3);
        Check.due("no trace", x.trace(0), -1);
        OverFence other = new OverFence();
        x.boy(0, 0);
        x.set(0, 2);
        Check.due("objects share nothing", other.count(0) + other.told(0), 0);
    }

    private static void feed() {
        OverFence x = new OverFence();
        Check.due("sign 0", x.feed(0), 1);
        Check.due("sign 127", x.feed(127), 2);
        String before = Check.seen(x);
        Check.refused(x, before, "sign -1", x.feed(-1), -2);
        Check.refused(x, before, "sign 128", x.feed(128), -2);
        Check.refused(x, before, "least sign", x.feed(Integer.MIN_VALUE), -2);
        for (int i = 3; i <= 100; i++) Check.due("sign " + i, x.feed('a'), i);
        before = Check.seen(x);
        Check.refused(x, before, "sign 101", x.feed('a'), -4);
        Check.refused(x, before, "BAD is told ahead of FULL", x.feed(128), -2);
        Check.due("signs of the tape", x.count(3), 100);
    }

    private static void yard() {
        OverFence x = new OverFence();
        Check.due("first yard", Check.yardOf(x, "wall 7;supper 3"), 0);
        Check.due("tape empty behind a yard", x.count(3), 0);
        Check.due("wall", x.told(10), 7);
        Check.due("supper", x.told(11), 3);
        Check.due("a fault", Check.yardOf(x, "wall 9;wall x"), -22);
        Check.due("tape empty behind a fault", x.count(3), 0);
        Check.due("a fault is no yard", x.count(1), 1);
        Check.due("the one that held holds", x.told(10), 7);
        Check.due("second yard", Check.yardOf(x, "wall 0"), 1);
        Check.due("the newest holds", x.told(10), 0);
        Check.due("its supper is as without", x.told(11), 18);
        Check.due("third yard", Check.yardOf(x, "wall 3;supper 1;wall 99;supper 20"), 2);
        Check.due("the last wall", x.told(10), 99);
        Check.due("the last supper", x.told(11), 20);
        Check.due("no sign at all", x.yard(), -10);
    }

    private static void yardsFull() {
        OverFence x = new OverFence();
        for (int i = 0; i < 5; i++) Check.due("yard " + i, Check.yardOf(x, "wall " + i), i);
        Check.feed(x, "wall 8");
        String before = Check.seen(x);
        Check.refused(x, before, "sixth yard", x.yard(), -4);
        Check.due("the tape stays", x.feed('!'), 7);
        before = Check.seen(x);
        Check.refused(x, before, "FULL, with a fault too", x.yard(), -4);
        Check.due("the fifth holds", x.told(10), 4);
        Check.due("yards", x.count(1), 5);
    }

    private static void boy() {
        OverFence x = new OverFence();
        String before = Check.seen(x);
        Check.refused(x, before, "kind -1", x.boy(-1, 0), -1);
        Check.refused(x, before, "kind 7", x.boy(7, 0), -1);
        Check.refused(x, before, "v -1", x.boy(0, -1), -2);
        Check.refused(x, before, "v 10", x.boy(0, 10), -2);
        Check.refused(x, before, "NONE ahead of BAD", x.boy(7, 10), -1);
        Check.due("boy 0", x.boy(0, 0), 0);
        Check.due("boy 1", x.boy(6, 9), 1);
        for (int i = 2; i < 5; i++) Check.due("boy " + i, x.boy(i, i), i);
        before = Check.seen(x);
        Check.refused(x, before, "sixth boy", x.boy(0, 0), -4);
        Check.refused(x, before, "NONE ahead of FULL", x.boy(7, 0), -1);
        Check.refused(x, before, "BAD ahead of FULL", x.boy(0, 10), -2);
    }

    private static void of() {
        for (int kind = 0; kind < 7; kind++) {
            OverFence x = new OverFence();
            x.boy(kind, 9 - kind);
            Check.due("his kind", x.of(0, 0), kind);
            Check.due("his v", x.of(0, 1), 9 - kind);
        }
        OverFence x = new OverFence();
        for (int kind = 2; kind < 7; kind++) x.boy(kind, kind + 2);
        for (int b = 0; b < 5; b++) {
            Check.due("kind of " + b, x.of(b, 0), b + 2);
            Check.due("v of " + b, x.of(b, 1), b + 4);
            Check.due("panes of " + b, x.of(b, 2), 0);
        }
        Check.due("of nobody", x.of(5, 0), -1);
        Check.due("of boy -1", x.of(-1, 0), -1);
        Check.due("what -1", x.of(0, -1), -1);
        Check.due("what 3", x.of(0, 3), -1);
        for (int bed = 0; bed < 10; bed++) x.bed(bed, 2);
        x.kick(2, 9);
        Check.due("a pane of boy 2", x.of(2, 2), 1);
        Check.due("none of boy 1", x.of(1, 2), 0);
    }

    private static void bed() {
        OverFence x = new OverFence();
        for (int bed = 0; bed < 10; bed++) {
            Check.due("lawn " + bed, x.bed(bed, 1 + bed % 3), 0);
            Check.due("what it was " + bed, x.bed(bed, 3 - bed % 3), 1 + bed % 3);
            Check.due("what it is " + bed, x.told(20 + bed), 3 - bed % 3);
        }
        String before = Check.seen(x);
        Check.refused(x, before, "bed -1", x.bed(-1, 0), -1);
        Check.refused(x, before, "bed 10", x.bed(10, 0), -1);
        Check.refused(x, before, "NONE ahead of BAD", x.bed(10, 4), -1);
        Check.refused(x, before, "what -1", x.bed(0, -1), -2);
        Check.refused(x, before, "what 4", x.bed(0, 4), -2);
        Check.due("lawn again", x.bed(4, 0), 2);
        Check.due("was lawn", x.bed(4, 0), 0);
    }

    private static void set() {
        OverFence x = new OverFence();
        int[] first = {0, 0, 2, 3, 15};
        int[] most = {3, 20, 9, 99, 23};
        for (int what = 0; what < 5; what++) {
            Check.due("what it was " + what, x.set(what, most[what]), first[what]);
            Check.due("what it is " + what, x.told(what), most[what]);
            String before = Check.seen(x);
            Check.refused(x, before, "too much for " + what, x.set(what, most[what] + 1), -2);
            Check.refused(x, before, "too little for " + what, x.set(what, -1), -2);
            Check.due("0 for " + what, x.set(what, 0), most[what]);
            Check.due("is 0 " + what, x.told(what), 0);
        }
        String before = Check.seen(x);
        Check.refused(x, before, "what -1", x.set(-1, 0), -1);
        Check.refused(x, before, "what 5", x.set(5, 0), -1);
        Check.refused(x, before, "NONE ahead of BAD", x.set(5, -1), -1);
    }

    private static void told() {
        OverFence x = new OverFence();
        for (int what : new int[] {-1, 12, 13, 19, 30, 31, Integer.MAX_VALUE, Integer.MIN_VALUE}) {
            Check.due("told " + what, x.told(what), -1);
        }
        x.boy(0, 9);
        x.bed(0, 1);
        x.bed(1, 3);
        x.set(3, 10);
        x.set(2, 1);
        x.kick(0, 1);
        x.kick(0, 1);
        x.kick(0, 2);
        Check.due("balls", x.told(3), 8);
        Check.due("kept", x.told(5), 1);
        Check.due("lodged", x.told(6), 1);
        Check.due("crushed", x.told(7), 2);
        Check.due("overs", x.told(8), 3);
        x.night();
        Check.due("day", x.told(9), 1);
    }
}
