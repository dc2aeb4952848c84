/** Promises 9 to 12: height, falls, kick, night; and what the clauses of a yard do to them. */
public final class KicksTest {
    public static void main(String[] args) {
        height();
        heightWithKept();
        clauses();
        kindsInClauses();
        truths();
        falls();
        kick();
        night();
        Check.end();
    }

    private static void height() {
        int[][] due = {
            {7, 8, 9, 10, 11, 12, 13, 14, 15, 16},
            {7, 9, 11, 13, 15, 17, 19, 21, 23, 25},
            {3, 4, 4, 5, 5, 6, 6, 7, 7, 8},
            {7, 8, 9, 10, 11, 12, 13, 14, 15, 16},
            {7, 12, 11, 16, 15, 20, 19, 24, 23, 28},
            {3, 4, 4, 5, 5, 6, 6, 7, 7, 8},
            {7, 8, 9, 10, 11, 12, 13, 14, 15, 16}};
        for (int kind = 0; kind < 7; kind++) {
            OverFence x = new OverFence();
            x.boy(kind, 7);
            for (int aim = 0; aim < 10; aim++) Check.due("height of kind " + kind, x.height(0, aim), due[kind][aim]);
        }
        OverFence x = new OverFence();
        x.boy(0, 0);
        String before = Check.seen(x);
        Check.refused(x, before, "boy -1", x.height(-1, 0), -1001);
        Check.refused(x, before, "boy 1", x.height(1, 0), -1001);
        Check.refused(x, before, "aim -1", x.height(0, -1), -1002);
        Check.refused(x, before, "aim 10", x.height(0, 10), -1002);
        Check.refused(x, before, "NONE ahead of BAD", x.height(1, 10), -1001);
    }

    private static void heightWithKept() {
        OverFence x = new OverFence();
        for (int kind = 2; kind < 7; kind++) x.boy(kind, 1);
        x.set(2, 0);
        x.kick(2, 9);
        x.kick(2, 9);
        x.kick(2, 9);
        Check.due("kept", x.told(5), 3);
        int[] due = {2, 1, 10, 2, -2};
        for (int b = 0; b < 5; b++) Check.due("kind " + (b + 2) + " with 3 kept", x.height(b, 3), due[b]);
    }

    private static void clauses() {
        OverFence x = new OverFence();
        x.boy(0, 1);
        x.boy(4, 2);
        Check.yardOf(x, "lift 10 b=1;duck 20 k<4;lift 3 a>7;duck 1 g=2;lift 50 n>19;duck 7 h=15");
        Check.due("duck by kind and hour", x.height(0, 0), 1 - 20 - 7);
        Check.due("lift by boy", x.height(1, 0), 2 + 10 - 7);
        Check.due("lift by aim", x.height(1, 8), 18 + 10 + 3 - 7);
        Check.due("no lift by aim 7", x.height(1, 7), 19 + 10 - 7);
        x.set(0, 2);
        Check.due("duck by goal", x.height(1, 0), 2 + 10 - 7 - 1);
        x.set(1, 20);
        Check.due("lift by net", x.height(1, 0), 2 + 10 - 7 - 1 + 50);
        x.set(4, 16);
        Check.due("another hour", x.height(1, 0), 2 + 10 - 1 + 50);
        Check.yardOf(x, "wall 3");
        Check.due("only the newest yard", x.height(1, 0), 2);
        Check.yardOf(x, "duck 99 a<10;duck 99 b<5;duck 99 k<7;duck 99 g<4;duck 99 n<21;duck 99 h<24");
        Check.due("ducks together", x.height(0, 0), 1 - 594);
    }

    private static void kindsInClauses() {
        for (int kind = 0; kind < 7; kind++) {
            for (int k = 0; k < 7; k++) {
                OverFence x = new OverFence();
                x.boy(kind, 4);
                int without = x.height(0, 3);
                Check.yardOf(x, "lift 40 k=" + k);
                Check.due("kind " + kind + ", lift by k=" + k, x.height(0, 3), without + (k == kind ? 40 : 0));
            }
        }
    }

    private static void truth(String test, boolean due) {
        OverFence x = new OverFence();
        x.boy(0, 0);
        x.boy(3, 0);
        x.set(0, 2);
        x.set(1, 4);
        Check.due(test, Check.yardOf(x, "lift 50 " + test), 0);
        Check.due(test, x.height(1, 5), due ? 55 : 5);
    }

    private static void truths() {
        truth("b<1", false);
        truth("b=1", true);
        truth("b>1", false);
        truth("k<3", false);
        truth("k<4", true);
        truth("k>2", true);
        truth("a=5", true);
        truth("g=2", true);
        truth("n=4", true);
        truth("h=15", true);
        truth("!h=15", false);
        truth("!!h=15", true);
        truth("!!!!!h=15", false);
        truth("a=1|a=2|a=5", true);
        truth("a=1|a=2|a=6", false);
        truth("a=5&b=1&k=3", true);
        truth("a=5&b=1&k=4", false);
        truth("a=5|b=0&k=4", true);
        truth("a=5|b=1&k=4", true);
        truth("a=5|b=1&k=3", true);
        truth("a=4|b=1&k=4", false);
        truth("(a=5|b=0)&k=4", false);
        truth("k=4&b=0|a=5", true);
        truth("k=4&(b=0|a=5)", false);
        truth("!a=4&b=0", false);
        truth("!(a=4&b=0)", true);
        truth("!a=5|b=1", true);
        truth("!(a=5|b=1)", false);
        truth("!(!(a=4)&!(b=0))", false);
        truth("!(!(a=5)&!(b=0))", true);
        truth("a=5&(b=0|(k=3&(g=1|(n=4&(h=15)))))", true);
        truth("a=5&(b=0|(k=3&(g=1|(n=4&(h=16)))))", false);
        truth("a=4|b=1&(a=4|b=1&(a=4|b=1&(a=4|b=1&(a=4|b=1&(a=4|b=1&k=3)))))", true);
        truth("a=4|b=1&(a=4|b=1&(a=4|b=1&(a=4|b=1&(a=4|b=1&(a=4|b=1&k=2)))))", false);
    }

    private static void falls() {
        OverFence x = new OverFence();
        x.boy(0, 6);
        x.boy(5, 9);
        for (int aim = 0; aim < 10; aim++) Check.due("falls by " + aim, x.falls(0, aim), (aim + 6) % 10);
        x.set(0, 3);
        for (int aim = 0; aim < 10; aim++) Check.due("goal 3, by " + aim, x.falls(0, aim), (aim + 12) % 10);
        Check.due("bent, height 6", x.falls(1, 3), (3 + 6 + 9 + 1) % 10);
        Check.due("bent, 9: 0 then", x.falls(1, 4), 0);
        Check.due("bent, height 5 is not over 5", x.falls(1, 2), -5);
        x.set(1, 1);
        Check.due("a net of 1", x.falls(0, 0), -5);
        Check.due("above it", x.falls(0, 1), 3);
        x.set(3, 0);
        Check.due("without a ball too", x.falls(0, 1), 3);
        Check.yardOf(x, "wall 9");
        Check.due("a wall of 9 and the net", x.falls(0, 4), -5);
        Check.due("above these", x.falls(0, 5), 7);
        String before = Check.seen(x);
        Check.refused(x, before, "boy -1", x.falls(-1, 0), -1);
        Check.refused(x, before, "boy 2", x.falls(2, 0), -1);
        Check.refused(x, before, "aim -1", x.falls(0, -1), -2);
        Check.refused(x, before, "aim 10", x.falls(0, 10), -2);
        Check.refused(x, before, "NONE ahead of BAD", x.falls(2, 10), -1);
    }

    private static void state(OverFence x, String when, int balls, int kept, int lodged, int crushed, int overs) {
        int[] due = {balls, kept, lodged, crushed, overs};
        int[] what = {3, 5, 6, 7, 8};
        for (int i = 0; i < due.length; i++) Check.due(when + ": told " + what[i], x.told(what[i]), due[i]);
    }

    private static void kick() {
        OverFence x = new OverFence();
        x.boy(0, 0);
        x.boy(0, 1);
        x.bed(7, 1);
        x.bed(8, 2);
        x.bed(9, 3);
        x.set(3, 9);
        String before = Check.seen(x);
        Check.refused(x, before, "within", x.kick(0, 5), 0);
        Check.due("thrown back", x.kick(0, 6), 1);
        state(x, "thrown back", 9, 0, 0, 0, 1);
        Check.due("thrown back from dahlias", x.kick(0, 7), 1);
        state(x, "thrown back from dahlias", 9, 0, 0, 1, 2);
        Check.due("kept from dahlias", x.kick(0, 7), 2);
        state(x, "kept from dahlias", 8, 1, 0, 2, 3);
        Check.due("kept", x.kick(0, 6), 2);
        state(x, "kept", 7, 2, 0, 2, 4);
        Check.due("on a pane", x.kick(1, 7), 3);
        state(x, "on a pane", 6, 3, 0, 2, 5);
        Check.due("his pane", x.of(1, 2), 1);
        Check.due("not his pane", x.of(0, 2), 0);
        Check.due("on the roof", x.kick(1, 8), 4);
        state(x, "on the roof", 5, 3, 1, 2, 6);
        x.set(2, 9);
        Check.due("the 7th of 9", x.kick(0, 6), 1);
        x.set(4, 18);
        Check.due("supper", x.kick(0, 6), 2);
        Check.due("a pane at supper", x.kick(0, 8), 3);
        state(x, "at supper", 3, 5, 1, 2, 9);
        Check.yardOf(x, "supper 17");
        Check.due("the 10th of 9", x.kick(0, 6), 2);
        x.set(3, 1);
        Check.due("the last ball", x.kick(0, 9), 4);
        before = Check.seen(x);
        Check.refused(x, before, "no ball", x.kick(0, 6), -3);
        Check.refused(x, before, "no ball, within", x.kick(0, 0), -3);
        Check.refused(x, before, "boy 2", x.kick(2, 0), -1);
        Check.refused(x, before, "boy -1", x.kick(-1, 10), -1);
        Check.refused(x, before, "aim 10", x.kick(0, 10), -2);
        Check.refused(x, before, "aim -1", x.kick(0, -1), -2);
    }

    private static void night() {
        OverFence x = new OverFence();
        x.boy(1, 9);
        x.set(2, 1);
        x.bed(7, 3);
        x.kick(0, 9);
        x.kick(0, 9);
        x.kick(0, 8);
        state(x, "first day", 1, 1, 1, 0, 3);
        x.set(4, 20);
        for (int day = 1; day < 7; day++) {
            Check.due("night", x.night(), day);
            Check.due("hour", x.told(4), 15);
            state(x, "day " + day, 1, 1, 1, 0, 0);
        }
        Check.due("one a day back again", x.kick(0, 9), 1);
        x.set(3, 99);
        Check.due("Sunday", x.night(), 7);
        state(x, "Sunday", 100, 0, 1, 0, 0);
        Check.due("more than by hand", x.set(3, 5), 100);
        for (int day = 8; day <= 999; day++) Check.due("night", x.night(), day);
        x.set(4, 3);
        String before = Check.seen(x);
        Check.refused(x, before, "day 999", x.night(), -3);
    }
}
