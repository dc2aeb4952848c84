/** Promises 13 to 18: odds, turn, need, bar, round, rule. None of them changes anything. */
public final class OddsTest {
    private static final long NO = Long.MIN_VALUE;

    public static void main(String[] args) {
        odds();
        oddsOfBackAndSupper();
        turn();
        need();
        bar();
        round();
        roundWithoutBallsOrBoys();
        roundByShyBoys();
        roundWithNetAndYard();
        roundTillNoBallIsLeft();
        rule();
        Check.end();
    }

    private static void odds(OverFence x, int boy, int what, long above, long below) {
        Check.due("odds " + boy + ", " + what + " above", x.odds(boy, what, 0), above);
        Check.due("odds " + boy + ", " + what + " below", x.odds(boy, what, 1), below);
    }

    private static void odds() {
        OverFence x = new OverFence();
        x.boy(0, 1);
        x.boy(2, 0);
        x.bed(7, 1);
        x.bed(8, 2);
        x.bed(9, 3);
        // Boy 0 by 5 .. 9 on 6 (lawn), 7 (dahlias), 8 (a pane), 9 (roof), 0 (lawn).
        odds(x, 0, 0, 1, 2);
        odds(x, 0, 1, 3, 10);
        odds(x, 0, 2, 0, 1);
        odds(x, 0, 3, 1, 10);
        odds(x, 0, 4, 1, 10);
        x.bed(0, 3);
        odds(x, 0, 4, 1, 5);
        x.bed(6, 3);
        odds(x, 0, 4, 3, 10);
        odds(x, 0, 1, 1, 10);
        odds(x, 1, 0, 1, 1);
        odds(x, 1, 1, 0, 1);
        x.set(3, 0);
        odds(x, 0, 4, 3, 10);
        String before = Check.seen(x);
        Check.refused(x, before, "boy 2", x.odds(2, 0, 0), NO);
        Check.refused(x, before, "boy -1", x.odds(-1, 0, 0), NO);
        Check.refused(x, before, "what 5", x.odds(0, 5, 0), NO);
        Check.refused(x, before, "what -1", x.odds(0, -1, 0), NO);
        Check.refused(x, before, "part 2", x.odds(0, 0, 2), NO);
        Check.refused(x, before, "part -1", x.odds(0, 0, -1), NO);
        Check.refused(x, before, "odds change nothing", x.odds(0, 0, 0), 1);
    }

    private static void oddsOfBackAndSupper() {
        OverFence x = new OverFence();
        x.boy(0, 9);
        x.bed(4, 2);
        odds(x, 0, 1, 9, 10);
        x.kick(0, 0);
        odds(x, 0, 1, 9, 10);
        x.kick(0, 0);
        odds(x, 0, 1, 0, 1);
        odds(x, 0, 2, 9, 10);
        odds(x, 0, 3, 1, 10);
        x.set(2, 3);
        odds(x, 0, 1, 9, 10);
        x.set(4, 18);
        odds(x, 0, 1, 0, 1);
        odds(x, 0, 2, 9, 10);
        Check.yardOf(x, "supper 17");
        odds(x, 0, 1, 9, 10);
    }

    private static void turn() {
        OverFence x = new OverFence();
        Check.due("nobody, goal", x.turn(0), 0);
        Check.due("nobody, how many", x.turn(1), 0);
        x.boy(0, 1);
        x.boy(1, 0);
        Check.due("all alike, goal", x.turn(0), 0);
        Check.due("all alike, how many", x.turn(1), 5 + 7);
        Check.yardOf(x, "duck 1 g>1;lift 2 g=0;duck 3 g=3&b=1;lift 3 g=3&b=1");
        Check.due("goal", x.turn(0), 2);
        Check.due("how many", x.turn(1), 4 + 6);
        x.set(0, 1);
        x.set(1, 2);
        Check.due("goal, with a net", x.turn(0), 2);
        Check.due("how many, with a net", x.turn(1), 2 + 5);
        OverFence beyond = new OverFence();
        beyond.boy(0, 3);
        Check.yardOf(beyond, "duck 50 g>3");
        Check.due("there is no fifth side", beyond.turn(1), 7);
        for (int goal = 0; goal < 4; goal++) {
            OverFence y = new OverFence();
            y.boy(0, 3);
            y.set(0, (goal + 1) % 4);
            Check.yardOf(y, "duck 2 g=" + goal + ";duck 1 g>" + goal);
            Check.due("the best goal", y.turn(0), goal);
            Check.due("by the best goal", y.turn(1), 5);
            Check.due("the goal is as it was", y.told(0), (goal + 1) % 4);
        }
        String before = Check.seen(x);
        Check.refused(x, before, "what -1", x.turn(-1), -1);
        Check.refused(x, before, "what 2", x.turn(2), -1);
        Check.refused(x, before, "turn changes nothing", x.turn(0), 2);
    }

    private static void need() {
        OverFence x = new OverFence();
        Check.due("nobody", x.need(0), 0);
        x.boy(0, 0);
        x.boy(1, 0);
        Check.due("as it is", x.need(11), 0);
        Check.due("11 go over", x.need(10), 1);
        Check.due("none", x.need(0), 13);
        x.set(1, 7);
        Check.due("the net that is there is none", x.need(11), 0);
        Check.due("none, still", x.need(0), 13);
        Check.yardOf(x, "wall 0;lift 3 b=1&a=9");
        Check.due("one above all nets", x.need(0), -5);
        Check.due("but one", x.need(1), 16);
        Check.yardOf(x, "lift 90 n<20&g=0");
        Check.due("the net itself lifts", x.need(19), 20);
        x.set(0, 1);
        Check.due("the goal as it is", x.need(11), 0);
        Check.due("50", x.need(50), 0);
        String before = Check.seen(x);
        Check.refused(x, before, "-1", x.need(-1), -2);
        Check.refused(x, before, "51", x.need(51), -2);
        Check.refused(x, before, "need changes nothing", x.need(0), 13);
    }

    private static void bar() {
        OverFence x = new OverFence();
        Check.due("nobody, aim", x.bar(0), 0);
        Check.due("nobody, how many", x.bar(1), 0);
        x.boy(0, 0);
        x.boy(0, 1);
        x.boy(0, 2);
        Check.due("aim", x.bar(0), 6);
        Check.due("how many", x.bar(1), 3);
        x.set(1, 5);
        Check.due("aim with a net", x.bar(0), 9);
        Check.due("how many with a net", x.bar(1), 1);
        Check.yardOf(x, "lift 50 a=2&b>0;duck 20 a=9");
        Check.due("aim with clauses", x.bar(0), 2);
        Check.due("how many with clauses", x.bar(1), 2);
        for (int aim = 0; aim < 10; aim++) {
            OverFence y = new OverFence();
            y.boy(2, 0);
            y.boy(2, 0);
            y.boy(2, 0);
            Check.yardOf(y, "lift 50 a=" + aim + "&b<2;lift 50 a>" + aim + "&b=2");
            Check.due("the aim", y.bar(0), aim);
            Check.due("by the aim", y.bar(1), 2);
        }
        String before = Check.seen(x);
        Check.refused(x, before, "what -1", x.bar(-1), -1);
        Check.refused(x, before, "what 2", x.bar(2), -1);
    }

    private static void round(OverFence x, int n, int what, long above, long below) {
        Check.due("round " + n + ", " + what + " above", x.round(n, what, 0), above);
        Check.due("round " + n + ", " + what + " below", x.round(n, what, 1), below);
    }

    private static void round() {
        OverFence x = new OverFence();
        x.boy(0, 1);
        x.boy(0, 9);
        x.bed(8, 2);
        x.bed(9, 3);
        // Boy 0: 5 of 10 go over, 1 on the pane, 1 on the roof. Boy 1: all, 1 on each.
        round(x, 0, 0, 3, 1);
        round(x, 0, 3, 0, 1);
        round(x, 1, 0, 14, 5);
        round(x, 1, 1, 1, 10);
        round(x, 1, 2, 1, 10);
        round(x, 1, 3, 1, 2);
        round(x, 2, 1, 1, 5);
        round(x, 2, 2, 1, 5);
        round(x, 2, 3, 3, 2);
        // The third one: 1 of 10 on the pane, and 3 of 10 on lawn, if the first went over (1 of 2).
        round(x, 3, 1, 9, 20);
        x.set(4, 18);
        round(x, 1, 1, 2, 5);
        String before = Check.seen(x);
        Check.refused(x, before, "n -1", x.round(-1, 0, 0), NO);
        Check.refused(x, before, "n 13", x.round(13, 0, 0), NO);
        Check.refused(x, before, "what -1", x.round(1, -1, 0), NO);
        Check.refused(x, before, "what 4", x.round(1, 4, 0), NO);
        Check.refused(x, before, "part -1", x.round(1, 0, -1), NO);
        Check.refused(x, before, "part 2", x.round(1, 0, 2), NO);
        Check.refused(x, before, "round changes nothing", x.round(1, 1, 0), 2);
    }

    private static void roundWithoutBallsOrBoys() {
        OverFence x = new OverFence();
        round(x, 12, 0, 3, 1);
        round(x, 12, 1, 0, 1);
        x.boy(1, 9);
        x.set(2, 0);
        round(x, 12, 0, 0, 1);
        x.set(3, 2);
        // Boy 0's aims of 0 to 9 rise to 9 and more: each goes over, and is kept.
        round(x, 12, 3, 2, 1);
        round(x, 2, 0, 0, 1);
        round(x, 1, 0, 1, 1);
        x.set(3, 0);
        round(x, 12, 3, 0, 1);
        x.set(3, 99);
        round(x, 12, 0, 87, 1);
        round(x, 12, 1, 12, 1);
        for (int bed = 0; bed < 10; bed++) x.bed(bed, 3);
        round(x, 12, 2, 12, 1);
        for (int bed = 0; bed < 10; bed++) x.bed(bed, 1);
        x.set(2, 9);
        round(x, 12, 1, 3, 1);
        round(x, 12, 0, 96, 1);
        x.kick(0, 0);
        round(x, 12, 3, 13, 1);
        round(x, 12, 1, 4, 1);
    }

    private static void roundByShyBoys() {
        OverFence x = new OverFence();
        x.boy(6, 1);
        x.set(2, 0);
        // At first 5 of 10 go over; with one kept 3; with two 1.
        round(x, 1, 3, 1, 2);
        round(x, 2, 3, 9, 10);
        // Ahead of the third 25 of 100 have none kept, 60 one, 15 two.
        round(x, 3, 3, 61, 50);
        x = new OverFence();
        x.boy(3, 1);
        x.set(2, 0);
        round(x, 2, 3, 19, 20);
        round(x, 2, 1, 19, 20);
    }

    private static void roundWithNetAndYard() {
        OverFence x = new OverFence();
        x.boy(0, 1);
        x.boy(0, 0);
        x.boy(2, 9);
        x.set(1, 2);
        // Above 7: by 7 .. 9; by 8 and 9; by 7 .. 9, which rise to 8, 8 and 9.
        round(x, 1, 3, 3, 10);
        round(x, 2, 3, 1, 2);
        round(x, 3, 3, 4, 5);
        Check.yardOf(x, "lift 20 b=0&a=0;duck 20 b=0&a>7;lift 30 b=1&a<9;duck 1 b=2;lift 50 n=1|g=3|h=9");
        // By 0 and 7; by all; by 9 as 8 alone.
        round(x, 1, 3, 1, 5);
        round(x, 2, 3, 6, 5);
        round(x, 3, 3, 13, 10);
        x.set(4, 9);
        round(x, 1, 3, 1, 1);
        OverFence five = new OverFence();
        for (int v = 0; v < 5; v++) five.boy(0, v);
        five.set(2, 9);
        Check.yardOf(five, "lift 50 b=4&a=9;duck 50 b=4&a=8;duck 50 b=0");
        // None; 5, 6, 7 of 10; 7 of 10 (2 .. 7 and 9, 8 not); none again.
        round(five, 5, 3, 5, 2);
        round(five, 6, 3, 5, 2);
    }

    private static void roundTillNoBallIsLeft() {
        OverFence x = new OverFence();
        x.boy(0, 9);
        x.set(2, 0);
        for (int bed = 0; bed < 10; bed++) x.bed(bed, 3);
        round(x, 12, 0, 0, 1);
        round(x, 12, 2, 3, 1);
        round(x, 12, 3, 3, 1);
        for (int bed = 0; bed < 5; bed++) x.bed(bed, 0);
        round(x, 12, 0, 0, 1);
        round(x, 12, 1, 3, 2);
        round(x, 12, 2, 3, 2);
        round(x, 12, 3, 3, 1);
    }

    private static void rule() {
        OverFence x = new OverFence();
        Check.due("nobody", x.rule(12), 0);
        x.boy(6, 9);
        x.boy(4, 3);
        x.set(2, 7);
        Check.due("no kick", x.rule(0), 0);
        Check.due("the fewest by 0", x.rule(12), 0);
        String before = Check.seen(x);
        Check.refused(x, before, "n -1", x.rule(-1), -2);
        Check.refused(x, before, "n 13", x.rule(13), -2);
        Check.refused(x, before, "rule changes nothing", x.rule(5), 0);
        Check.due("her own stays", x.told(2), 7);
    }
}
