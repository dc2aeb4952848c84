/** Promises 19 to 21: owes, who, cover. */
public final class PaysTest {
    private static final long NO = Long.MIN_VALUE;

    public static void main(String[] args) {
        owes();
        who();
        cover();
        Check.end();
    }

    private static void owes(OverFence x, int boy, int law, long above, long below) {
        Check.due("owes " + boy + " by " + law + " above", x.owes(boy, law, 0), above);
        Check.due("owes " + boy + " by " + law + " below", x.owes(boy, law, 1), below);
    }

    private static void owes() {
        OverFence x = new OverFence();
        for (int b = 0; b < 3; b++) x.boy(1, 9);
        for (int bed = 0; bed < 10; bed++) x.bed(bed, 2);
        x.set(3, 9);
        for (int law = 0; law < 3; law++) owes(x, 0, law, 0, 1);
        x.kick(0, 1);
        x.kick(2, 1);
        x.kick(2, 1);
        x.kick(2, 1);
        int[] panes = {1, 0, 3};
        for (int b = 0; b < 3; b++) {
            owes(x, b, 0, 400L * panes[b], 1);
            owes(x, b, 1, 1600, 3);
            owes(x, b, 2, 400L * panes[(b + 2) % 3], 1);
        }
        x.kick(1, 0);
        x.kick(1, 0);
        owes(x, 1, 1, 800, 1);
        x.boy(0, 0);
        x.boy(0, 0);
        owes(x, 4, 1, 480, 1);
        owes(x, 0, 2, 0, 1);
        owes(x, 3, 2, 1200, 1);
        String before = Check.seen(x);
        Check.refused(x, before, "boy -1", x.owes(-1, 0, 0), NO);
        Check.refused(x, before, "boy 5", x.owes(5, 0, 0), NO);
        Check.refused(x, before, "law -1", x.owes(0, -1, 0), NO);
        Check.refused(x, before, "law 3", x.owes(0, 3, 0), NO);
        Check.refused(x, before, "part -1", x.owes(0, 0, -1), NO);
        Check.refused(x, before, "part 2", x.owes(0, 0, 2), NO);
        OverFence alone = new OverFence();
        alone.boy(1, 9);
        alone.bed(0, 2);
        alone.kick(0, 1);
        owes(alone, 0, 2, 400, 1);
    }

    private static void who() {
        OverFence x = new OverFence();
        Check.due("nobody", x.who(3), 0);
        x.boy(0, 0);
        x.boy(0, 3);
        x.boy(5, 9);
        // Boy 0 by 6 .. 9 on 6 .. 9; boy 1 by 3 .. 9 on 6 .. 9 and 0 .. 2; boy 2 by 3 .. 9 on 3 .. 9.
        int[] due = {2, 2, 2, 4, 4, 4, 7, 7, 7, 7};
        for (int bed = 0; bed < 10; bed++) Check.due("who on " + bed, x.who(bed), due[bed]);
        x.set(0, 1);
        Check.due("goal 1, bed 8", x.who(8), 7);
        Check.due("goal 1, bed 5", x.who(5), 4);
        x.set(3, 0);
        Check.due("without a ball", x.who(8), 7);
        x.set(1, 20);
        Check.due("a net", x.who(8), 0);
        String before = Check.seen(x);
        Check.refused(x, before, "bed -1", x.who(-1), -1);
        Check.refused(x, before, "bed 10", x.who(10), -1);
        Check.refused(x, before, "who changes nothing", x.who(0), 0);
    }

    private static void cover() {
        OverFence x = new OverFence();
        Check.due("no pane, bed", x.cover(0), -5);
        Check.due("no pane, how many", x.cover(1), -5);
        Check.due("NONE without a pane", x.cover(2), -1);
        x.bed(8, 2);
        x.bed(4, 2);
        Check.due("nobody, bed", x.cover(0), 4);
        Check.due("nobody, how many", x.cover(1), 0);
        x.boy(0, 0);
        Check.due("boy 0, bed", x.cover(0), 8);
        Check.due("boy 0, how many", x.cover(1), 1);
        x.boy(0, 5);
        // Boy 1 by 9 on 4, by 3 on 8.
        Check.due("boy 1, bed", x.cover(0), 8);
        Check.due("boy 1, how many", x.cover(1), 2);
        x.boy(0, 6);
        x.boy(0, 8);
        Check.due("boys 2 and 3, bed", x.cover(0), 8);
        Check.due("boys 2 and 3, how many", x.cover(1), 4);
        x.bed(6, 2);
        x.bed(8, 3);
        // On 4: boys 1, 2 and 3; on 6: all four.
        Check.due("another bed", x.cover(0), 6);
        Check.due("another bed, how many", x.cover(1), 4);
        x.bed(6, 0);
        Check.due("the last pane", x.cover(0), 4);
        Check.due("the last pane, how many", x.cover(1), 3);
        x.bed(5, 2);
        Check.due("of several the least", x.cover(0), 4);
        x.bed(0, 2);
        x.bed(9, 2);
        // On 0: boys 1, 2 and 3 by 5, 4 and 2; on 9: all four.
        Check.due("the last bed", x.cover(0), 9);
        x.bed(9, 0);
        Check.due("the first bed", x.cover(0), 0);
        String before = Check.seen(x);
        Check.refused(x, before, "what -1", x.cover(-1), -1);
        Check.refused(x, before, "what 2", x.cover(2), -1);
    }
}
