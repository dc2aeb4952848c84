/** Promises 22 and 23: tale, looked. */
public final class TalesTest {
    public static void main(String[] args) {
        tale();
        looked();
        lookedAtBalls();
        Check.end();
    }

    private static void tale() {
        OverFence x = new OverFence();
        Check.due("none, of none", x.tale(-1, 0, 0), 0);
        Check.due("NONE", x.tale(0, 0, 0), -1);
        x.boy(0, 0);
        for (int i = 1; i <= 12; i++) Check.due("tale " + i, x.tale(0, i % 10, i % 5), i);
        String before = Check.seen(x);
        Check.refused(x, before, "a 13th", x.tale(0, 0, 0), -4);
        Check.refused(x, before, "boy 1", x.tale(1, 0, 0), -1);
        Check.refused(x, before, "boy -2", x.tale(-2, 0, 0), -1);
        Check.refused(x, before, "aim -1", x.tale(0, -1, 0), -2);
        Check.refused(x, before, "aim 10", x.tale(0, 10, 0), -2);
        Check.refused(x, before, "told -1", x.tale(0, 0, -1), -2);
        Check.refused(x, before, "told 5", x.tale(0, 0, 5), -2);
        Check.refused(x, before, "NONE ahead of BAD", x.tale(1, 10, 5), -1);
        Check.due("none then", x.tale(-1, 77, -5), 0);
        Check.due("tales", x.count(2), 0);
        Check.due("from the first on", x.tale(0, 0, 4), 1);
    }

    private static void looked() {
        OverFence x = new OverFence();
        Check.due("no tales", x.looked(), -5);
        x.boy(0, 0);
        x.boy(3, 1);
        x.bed(8, 2);
        x.bed(9, 3);
        x.set(3, 9);
        x.tale(0, 5, 0);
        x.tale(0, 6, 1);
        x.tale(0, 8, 3);
        x.tale(0, 9, 4);
        x.tale(0, 6, 2);
        x.tale(1, 6, 0);
        x.tale(1, 7, 3);
        String before = Check.seen(x);
        Check.refused(x, before, "all as told", x.looked(), -5);
        x.tale(1, 7, 3);
        Check.due("with three kept 7 is within", x.looked(), 7);
        x.set(2, 0);
        Check.due("she throws none back", x.looked(), 1);
        x.set(2, 9);
        Check.due("she throws all back", x.looked(), 4);
        x.tale(-1, 0, 0);
        x.tale(0, 0, 1);
        Check.due("the first", x.looked(), 0);
    }

    private static void lookedAtBalls() {
        OverFence x = new OverFence();
        x.boy(0, 9);
        x.set(2, 0);
        for (int i = 0; i < 4; i++) x.tale(0, 0, 2);
        Check.due("three balls, four tales", x.looked(), 3);
        x.set(3, 4);
        Check.due("four balls", x.looked(), -5);
        x.set(3, 0);
        Check.due("no ball", x.looked(), 0);
        x.set(3, 3);
        x.kick(0, 0);
        Check.due("one is kept already", x.looked(), 2);
        x.tale(-1, 0, 0);
        Check.due("no tales, no ball", x.looked(), -5);
    }
}
