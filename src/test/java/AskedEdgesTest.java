/** Part 2 of the document, sentence by sentence: what stands at the edges that they name. */
public final class AskedEdgesTest {
    private static final long NO = Long.MIN_VALUE;

    public static void main(String[] args) {
        odds();
        turn();
        need();
        bar();
        round();
        roundInLowestTerms();
        rule();
        owes();
        who();
        cover();
        tales();
        acts();
        traces();
        image();
        Check.end();
    }

    /** Five boys who are alike but for their numbers. */
    private static Edge five(String sentence, int kind, int v) {
        Edge edge = Edge.of(sentence);
        for (int i = 0; i < 5; i++) edge.does("boy(" + kind + ", " + v + ")");
        return edge;
    }

    // ---- odds, what to do

    private static void odds() {
        Edge.of("ODDS: all WITHIN").does("boy(2, 0)").fraction("odds(0, 0", 1, 1).fraction("odds(0, 1", 0, 1)
            .fraction("odds(0, 2", 0, 1).fraction("odds(0, 3", 0, 1).fraction("odds(0, 4", 0, 1);
        Edge.of("ODDS: all OVER").does("boy(1, 9)").fraction("odds(0, 0", 0, 1).fraction("odds(0, 1", 1, 1)
            .does("set(2, 0)").fraction("odds(0, 1", 0, 1).fraction("odds(0, 2", 1, 1)
            .garden(2).fraction("odds(0, 2", 0, 1).fraction("odds(0, 3", 1, 1)
            .garden(3).fraction("odds(0, 3", 0, 1).fraction("odds(0, 4", 1, 1);
        Edge.of("ODDS: a fraction in lowest terms").does("boy(0, 0)").fraction("odds(0, 0", 3, 5).fraction("odds(0, 1", 2, 5)
            .does("boy(0, 1)").fraction("odds(1, 0", 1, 2).does("boy(0, 2)").fraction("odds(2, 1", 3, 5)
            .does("boy(0, 3)").fraction("odds(3, 1", 7, 10);
        Edge.of("ODDS: also when there is no ball").does("boy(0, 0)", "bed(9, 2)", "set(3, 0)").fraction("odds(0, 0", 3, 5)
            .fraction("odds(0, 1", 3, 10).fraction("odds(0, 3", 1, 10);
        Edge.of("ODDS now: with OVERS of today, BACK, and supper").does("boy(0, 0)", "kick(0, 9)").fraction("odds(0, 1", 2, 5)
            .does("kick(0, 9)").fraction("odds(0, 1", 0, 1).fraction("odds(0, 2", 2, 5).does("set(2, 3)").fraction("odds(0, 1", 2, 5)
            .does("set(4, 18)").fraction("odds(0, 1", 0, 1).fraction("odds(0, 2", 2, 5);
        Edge.of("ODDS: no such BOY, what, part").does("boy(0, 0)").idle("odds(-1, 0, 0)", NO).idle("odds(1, 0, 0)", NO)
            .idle("odds(0, -1, 0)", NO).idle("odds(0, 5, 0)", NO).idle("odds(0, 0, -1)", NO).idle("odds(0, 0, 2)", NO)
            .idle("odds(0, 0, 0)", 3);
    }

    private static void turn() {
        Edge.of("TURN without BOYS").idle("turn(0)", 0).idle("turn(1)", 0);
        Edge.of("TURN: of several the least").does("boy(0, 0)", "set(0, 2)").due("turn(0)", 0).due("turn(1)", 4)
            .yard("lift 1 g=0|g=2", 0).due("turn(0)", 1).due("turn(1)", 4).yard("duck 1 g>1", 1).due("turn(0)", 2)
            .due("turn(1)", 3).yard("duck 1 g=3", 2).due("turn(0)", 3).due("turn(1)", 3).due("told(0)", 2);
        five("TURN: all kicks go OVER", 1, 9).due("turn(0)", 0).due("turn(1)", 50).does("set(1, 20)").due("turn(1)", 5);
        five("TURN: none goes OVER", 2, 0).due("turn(0)", 0).due("turn(1)", 0);
        Edge.of("TURN: no such what").idle("turn(-1)", -1).idle("turn(2)", -1);
    }

    private static void need() {
        Edge.of("NEED without BOYS").idle("need(0)", 0).idle("need(50)", 0);
        five("NEED of n (0 .. 50)", 1, 9).idle("need(-1)", -2).idle("need(51)", -2).due("need(50)", 0).due("need(49)", 4)
            .due("need(0)", -5).due("need(5)", 20).due("need(4)", -5);
        Edge.of("the least NET (0 .. 20)").does("boy(0, 9)").yard("lift 7 a=9", 0).due("height(0, 9)", 25).due("need(0)", 20)
            .yard("lift 8 a=9", 1).due("need(0)", -5).due("need(1)", 12);
        Edge.of("the least NET: NET as it is counts for nothing").does("boy(0, 0)", "set(1, 20)").due("need(0)", 4)
            .due("need(4)", 0).due("need(3)", 1).due("told(1)", 20);
        Edge.of("the least NET: n in a TEST is the one tried").does("boy(0, 0)").yard("lift 90 !n=7", 0).due("need(0)", 7)
            .yard("lift 90 !n=20", 1).due("need(0)", 20).yard("lift 90 n<21", 2).due("need(0)", -5).due("need(10)", 0)
            .yard("lift 90 n>0", 3).due("need(4)", 0).due("need(3)", -5);
        Edge.of("GOAL as it is").does("boy(0, 0)").yard("lift 90 g=3", 0).due("need(4)", 0).does("set(0, 3)").due("need(4)", -5);
    }

    private static void bar() {
        Edge.of("BAR without BOYS").idle("bar(0)", 0).idle("bar(1)", 0);
        Edge.of("BAR: none OVER").does("boy(2, 0)").due("bar(0)", 0).due("bar(1)", 0);
        five("BAR: of several the least", 1, 9).due("bar(0)", 0).due("bar(1)", 5).yard("duck 99 a=0", 0).due("bar(0)", 1)
            .yard("duck 99 a<9", 1).due("bar(0)", 9).due("bar(1)", 5).yard("duck 99 a<9|b=0", 2).due("bar(0)", 9).due("bar(1)", 4);
        Edge.of("BAR now: GOAL, NET, KEPT as they are").does("boy(3, 0)", "boy(1, 9)", "set(2, 0)").due("bar(0)", 6).due("bar(1)", 2)
            .does("kick(1, 9)").due("bar(0)", 7).does("kick(1, 9)", "kick(1, 9)").due("bar(0)", 9).due("bar(1)", 2)
            .does("set(1, 1)").due("bar(0)", 0).due("bar(1)", 1);
        Edge.of("BAR: no such what").idle("bar(-1)", -1).idle("bar(2)", -1);
    }

    private static void round() {
        Edge.of("ROUND of n KICKS (0 .. 12)").does("boy(1, 9)", "set(2, 0)", "set(3, 99)").due("round(-1, 0, 0)", NO)
            .due("round(13, 0, 0)", NO).fraction("round(0, 0", 99, 1).fraction("round(0, 3", 0, 1).fraction("round(12, 0", 87, 1)
            .fraction("round(12, 1", 12, 1).fraction("round(12, 2", 0, 1).fraction("round(12, 3", 12, 1);
        Edge.of("ROUND: none, if there are no BOYS").garden(3).fraction("round(12, 0", 3, 1).fraction("round(12, 1", 0, 1)
            .fraction("round(12, 2", 0, 1).fraction("round(12, 3", 0, 1).due("round(12, 4, 0)", NO);
        Edge.of("ROUND: by BOYS by numbers, over and over, from 0 on").does("boy(1, 9)", "boy(2, 0)", "set(2, 9)")
            .fraction("round(1, 3", 1, 1).fraction("round(2, 3", 1, 1).fraction("round(3, 3", 2, 1).fraction("round(4, 3", 2, 1)
            .fraction("round(12, 3", 6, 1);
        five("ROUND: behind the fifth BOY the first", 2, 0).yard("lift 90 b=0", 0).fraction("round(5, 3", 1, 1)
            .fraction("round(6, 3", 2, 1).fraction("round(10, 3", 2, 1).fraction("round(11, 3", 3, 1).fraction("round(12, 3", 3, 1);
        Edge.of("without a ball in the yard nothing more goes").does("boy(1, 9)", "set(2, 0)").fraction("round(2, 0", 1, 1)
            .fraction("round(3, 0", 0, 1).fraction("round(4, 0", 0, 1).fraction("round(12, 3", 3, 1).fraction("round(12, 1", 3, 1)
            .does("set(3, 0)").fraction("round(12, 3", 0, 1).fraction("round(12, 0", 0, 1);
        Edge.of("without a ball in the yard nothing more goes: LODGED ones").does("boy(1, 9)", "set(2, 9)").garden(3)
            .fraction("round(12, 2", 3, 1).fraction("round(12, 3", 3, 1).fraction("round(12, 0", 0, 1);
        Edge.of("that there are then: those of before, too").does("boy(1, 9)", "bed(0, 3)", "set(2, 0)", "set(3, 9)", "kick(0, 0)")
            .does("kick(0, 1)", "kick(0, 0)").fraction("round(0, 0", 6, 1).fraction("round(0, 1", 2, 1).fraction("round(0, 2", 1, 1)
            .fraction("round(0, 3", 3, 1).fraction("round(1, 0", 5, 1).fraction("round(1, 1", 29, 10).fraction("round(1, 2", 11, 10)
            .fraction("round(1, 3", 4, 1);
        Edge.of("each as it comes: BACK is by OVERS then").does("boy(1, 9)", "set(2, 2)").fraction("round(2, 1", 0, 1)
            .fraction("round(3, 1", 1, 1).fraction("round(5, 1", 3, 1).fraction("round(6, 1", 3, 1).fraction("round(6, 3", 5, 1);
        Edge.of("each as it comes: SHY by KEPT then").does("boy(3, 6)", "set(2, 0)").yard("wall 6", 0)
            // By 1 .. 9; then, with one kept, by 2 .. 9.
            .fraction("round(1, 3", 9, 10).fraction("round(2, 3", 171, 100).fraction("round(2, 1", 171, 100);
    }

    private static void roundInLowestTerms() {
        Edge.of("ROUND: a fraction in lowest terms").does("boy(0, 1)", "set(2, 9)").fraction("round(1, 3", 1, 2)
            .fraction("round(2, 3", 1, 1).fraction("round(3, 3", 3, 2).fraction("round(12, 3", 6, 1);
        // One aim of ten on the roof, the others within: the mean is 12 by 10, while balls last.
        Edge.of("ROUND: a fraction in lowest terms").does("boy(2, 0)", "bed(9, 3)", "set(3, 99)").yard("lift 90 a=9", 0)
            .fraction("round(12, 2", 6, 5).fraction("round(7, 2", 7, 10);
        // One ball: it is gone but by 9 to the 12th of all 10 to the 12th ways.
        Edge.of("ROUND: a fraction in lowest terms, the largest line").does("boy(2, 0)", "bed(9, 3)", "set(3, 1)")
            .yard("lift 90 a=9", 0).fraction("round(12, 0", 282429536481L, 1000000000000L)
            .fraction("round(12, 2", 717570463519L, 1000000000000L);
    }

    private static void rule() {
        Edge.of("RULE of n (0 .. 12)").does("boy(1, 9)").idle("rule(-1)", -2).idle("rule(13)", -2).due("rule(0)", 0).due("rule(12)", 0);
        Edge.of("RULE without BOYS: of several the least").does("set(2, 9)").idle("rule(12)", 0).due("told(2)", 9);
        Edge.of("RULE: of several the least").does("boy(2, 0)", "set(2, 7)").idle("rule(5)", 0);
        Edge.of("RULE: by one kick all are alike").does("boy(1, 9)", "set(2, 7)").idle("rule(1)", 0);
        Edge.of("RULE: by more BACK more go OVER").does("boy(6, 9)", "boy(3, 9)").idle("rule(12)", 0);
    }

    // ---- who pays, who it was

    private static void owes() {
        Edge.of("OWES without PANES").does("boy(0, 0)").fraction("owes(0, 0", 0, 1).fraction("owes(0, 1", 0, 1).fraction("owes(0, 2", 0, 1);
        Edge.of("OWES: behind the last the first").garden(2).does("boy(1, 9)", "boy(1, 9)", "boy(1, 9)", "kick(2, 0)")
            .fraction("owes(0, 2", 400, 1).fraction("owes(1, 2", 0, 1).fraction("owes(2, 2", 0, 1)
            .fraction("owes(2, 0", 400, 1).fraction("owes(0, 0", 0, 1).fraction("owes(1, 1", 400, 3);
        Edge.of("OWES: behind the one who kicked").garden(2).does("boy(1, 9)", "boy(1, 9)", "boy(1, 9)", "kick(0, 0)")
            .fraction("owes(0, 2", 0, 1).fraction("owes(1, 2", 400, 1).fraction("owes(2, 2", 0, 1);
        Edge.of("OWES: one alone comes behind himself").garden(2).does("boy(1, 9)", "kick(0, 0)").fraction("owes(0, 2", 400, 1)
            .fraction("owes(0, 1", 400, 1).does("boy(0, 0)").fraction("owes(0, 2", 0, 1).fraction("owes(1, 2", 400, 1)
            .fraction("owes(1, 1", 200, 1);
        five("OWES: all alike, in lowest terms", 1, 9).garden(2).does("kick(4, 0)").fraction("owes(0, 1", 80, 1)
            .fraction("owes(4, 1", 80, 1).fraction("owes(0, 2", 400, 1).does("kick(4, 0)", "kick(0, 0)").fraction("owes(3, 1", 240, 1);
        Edge.of("OWES: no such BOY, LAW, part").does("boy(0, 0)").idle("owes(-1, 0, 0)", NO).idle("owes(1, 0, 0)", NO)
            .idle("owes(0, -1, 0)", NO).idle("owes(0, 3, 0)", NO).idle("owes(0, 0, -1)", NO).idle("owes(0, 0, 2)", NO)
            .idle("owes(0, 2, 1)", 1);
    }

    private static void who() {
        Edge.of("WHO without BOYS").idle("who(0)", 0).idle("who(9)", 0).idle("who(-1)", -1).idle("who(10)", -1);
        five("WHO: all, as bits", 1, 9).due("who(0)", 31).due("who(9)", 31).yard("duck 99 b<4", 0).due("who(0)", 16).due("who(9)", 16)
            .yard("duck 99 b>0", 1).due("who(0)", 1).yard("duck 99 b=0|b=2|b=4", 2).due("who(5)", 10);
        Edge.of("WHO: a kick goes OVER and falls there").does("boy(0, 0)").due("who(5)", 0).due("who(6)", 1).due("who(9)", 1)
            .due("who(0)", 0).does("set(0, 1)").due("who(8)", 1).due("who(1)", 1).due("who(2)", 0).due("who(7)", 0);
        Edge.of("WHO: BENT: 9: 0 then").does("boy(5, 9)", "set(0, 1)").yard("wall 8;lift 9 a=8", 0).due("who(9)", 0).due("who(0)", 1)
            .due("who(1)", 1).due("who(2)", 0);
        Edge.of("WHO: also without a ball").does("boy(0, 0)", "set(3, 0)").idle("who(9)", 1);
    }

    private static void cover() {
        Edge.of("COVER: -5: there is no pane").does("boy(1, 9)").idle("cover(0)", -5).idle("cover(1)", -5).garden(3).idle("cover(0)", -5)
            .garden(1).idle("cover(0)", -5).idle("cover(-1)", -1).idle("cover(2)", -1);
        Edge.of("COVER: a pane on which none falls").does("bed(3, 2)").idle("cover(0)", 3).idle("cover(1)", 0).does("bed(0, 2)")
            .due("cover(0)", 0).does("boy(2, 0)").due("cover(0)", 0).due("cover(1)", 0);
        Edge.of("COVER: of several the least").does("boy(1, 9)").garden(2).due("cover(0)", 0).due("cover(1)", 1).does("bed(0, 0)")
            .due("cover(0)", 1).does("boy(0, 0)").due("cover(0)", 6).due("cover(1)", 2);
        five("COVER: the last BED", 1, 9).does("bed(9, 2)").due("cover(0)", 9).due("cover(1)", 5).does("bed(8, 2)").due("cover(0)", 8);
        Edge.of("COVER: a BED that is no pane never").does("boy(0, 0)", "bed(9, 3)", "bed(2, 2)").due("cover(0)", 2).due("cover(1)", 0);
    }

    // ---- tales

    private static void tales() {
        Edge most = Edge.of("TALES: 12 at most").does("boy(0, 0)");
        for (int i = 1; i <= 12; i++) most.due("tale(0, 0, 0)", i);
        most.idle("tale(0, 0, 0)", -4).due("count(2)", 12).due("looked()", -5).due("tale(-1, 0, 0)", 0).due("count(2)", 0)
            .due("tale(0, 9, 0)", 1).due("looked()", 0);
        Edge.of("LOOKED at: the last one of twelve").does("boy(0, 0)").does("tale(0, 5, 0)", "tale(0, 5, 0)",
            "tale(0, 5, 0)", "tale(0, 5, 0)", "tale(0, 5, 0)", "tale(0, 5, 0)", "tale(0, 5, 0)", "tale(0, 5, 0)", "tale(0, 5, 0)",
            "tale(0, 5, 0)", "tale(0, 5, 0)", "tale(0, 6, 0)").due("count(2)", 12).idle("looked()", 11);
        Edge.of("LOOKED at: -5: none").idle("looked()", -5).does("boy(0, 0)", "set(3, 0)").idle("looked()", -5);
        Edge.of("LOOKED at: the first one for which there is no ball").does("boy(0, 0)", "set(3, 0)", "tale(0, 5, 0)").idle("looked()", 0)
            .does("set(3, 1)").idle("looked()", -5);
        Edge.of("LOOKED at: no ball, though it would be WITHIN").does("boy(0, 0)", "set(2, 0)", "set(3, 1)", "tale(0, 5, 0)",
            "tale(0, 9, 2)", "tale(0, 5, 0)").idle("looked()", 2).does("set(3, 2)").idle("looked()", -5);
        Edge.of("one KICK behind the other: BACK by OVERS then").does("boy(0, 0)", "tale(0, 9, 1)", "tale(0, 9, 1)", "tale(0, 9, 2)")
            .idle("looked()", -5).does("kick(0, 9)").idle("looked()", 1).does("kick(0, 9)").idle("looked()", 0);
        Edge.of("one KICK behind the other: SHY by KEPT then").does("boy(3, 0)", "set(2, 0)", "tale(0, 6, 2)", "tale(0, 6, 0)",
            "tale(0, 7, 2)", "tale(0, 7, 0)").idle("looked()", -5);
        Edge.of("what becomes of it (0 .. 4)").does("boy(0, 0)", "bed(8, 2)", "bed(7, 3)", "set(2, 1)", "set(3, 9)").idle("tale(0, 0, -1)", -2)
            .idle("tale(0, 0, 5)", -2).due("tale(0, 5, 0)", 1).due("tale(0, 9, 1)", 2).due("tale(0, 9, 2)", 3).due("tale(0, 8, 3)", 4)
            .due("tale(0, 7, 4)", 5).idle("looked()", -5).due("tale(0, 8, 2)", 6).idle("looked()", 5);
        Edge.of("boy -1: none then, 0").due("tale(-1, 0, 0)", 0).does("boy(0, 0)", "tale(0, 0, 4)").due("looked()", 0)
            .due("tale(-1, -1, 9)", 0).due("count(2)", 0).due("looked()", -5).idle("tale(-2, 0, 0)", -1);
    }

    // ---- acts, the image

    private static void acts() {
        int least = Integer.MIN_VALUE, most = Integer.MAX_VALUE;
        Edge.of("ints, wrapping: x + i").does("boy(0, 0)", "boy(0, 0)").due("act(0, 0, " + most + ")", most)
            .due("act(1, 0, " + most + ")", least).due("act(1, 0, -1)", 0).due("act(0, 0, " + least + ")", least);
        Edge.of("ints, wrapping: kicks(x) - v").does("boy(0, 1)").due("act(0, 1, " + least + ")", most)
            .due("act(0, 1, " + (least + 1) + ")", least);
        Edge.of("ints, wrapping: fetches(x) * 2").does("boy(0, 0)").due("act(0, 2, " + most + ")", -2).due("act(0, 2, " + least + ")", 0)
            .due("act(0, 2, " + (1 << 30) + ")", least);
        Edge.of("ints, wrapping: x * 3").does("boy(1, 0)").due("act(0, 0, " + most + ")", most - 2).due("act(0, 0, " + least + ")", least)
            .due("act(0, 0, 715827883)", least + 1).due("act(0, 0, 715827882)", most - 1);
        Edge.of("ints, wrapping: -super.fetches(x)").does("boy(2, 0)").due("act(0, 1, " + least + ")", least)
            .due("act(0, 1, " + most + ")", least + 1).due("act(0, 1, 0)", 0);
        Edge.of("ints, wrapping: super.pays(x) ^ 7").does("boy(3, 0)").due("act(0, 2, " + most + ")", -7).due("act(0, 2, 0)", 7)
            .due("act(0, 2, " + least + ")", 7);
        // (least - 1) * 3 is most - 2; twice that -6; and kicks(2) is 6.
        Edge.of("ints, wrapping: super.pays(x - 1) + kicks(2)").does("boy(4, 0)").due("act(0, 2, " + least + ")", 0)
            .due("act(0, 2, 1)", 6).due("act(0, 2, 0)", 0);
        Edge.of("ints: super.kicks(x) ^ i").does("boy(0, 0)", "boy(5, 0)").due("act(1, 0, " + most + ")", least + 1).due("act(1, 0, 0)", 0)
            .due("act(1, 0, -1)", 1).due("act(1, 0, -2)", -2);
        Edge.of("ints, wrapping: super.fetches(x) + v").does("boy(6, 9)").due("act(0, 1, " + most + ")", most)
            .due("act(0, 1, " + least + ")", least);
    }

    private static void traces() {
        Edge.of("THE TRACE: of the latest act()").does("boy(4, 0)").due("count(4)", 0).due("trace(0)", -1).does("act(0, 2, 1)")
            .due("count(4)", 7).due("trace(0)", 41).due("trace(1)", 3).due("trace(2)", 2).due("trace(3)", 11).due("trace(4)", 1)
            .due("trace(5)", 11).due("trace(6)", 1).idle("trace(7)", -1).idle("trace(-1)", -1).idle("trace(19)", -1).idle("trace(20)", -1)
            .does("act(0, 0, 1)").due("count(4)", 2).due("trace(0)", 11).due("trace(1)", 1).due("trace(2)", -1);
        String no = "0, and no TRACE then: no such BOY, act";
        for (String call : new String[] {"act(-1, 0, 9)", "act(1, 0, 9)", "act(0, -1, 9)", "act(0, 3, 9)", "act(5, 5, 9)"}) {
            Edge.of(no).does("boy(0, 4)", "act(0, 2, 1)").due("count(4)", 3).due(call, 0).due("count(4)", 0).due("trace(0)", -1);
        }
        Edge.of(no).due("act(0, 0, 9)", 0).due("count(4)", 0);
        Edge.of("an answer of 0 has a TRACE").does("boy(0, 0)").due("act(0, 2, 0)", 0).due("count(4)", 3);
    }

    private static void image() {
        Edge.of("STATE: there is none").idle("undo()", -3).does("boy(0, 0)").idle("undo()", -3).due("image()", 1).due("undo()", 1);
        Edge.of("an IMAGE of a new object").due("image()", 0).does("boy(1, 9)", "kick(0, 0)", "set(0, 1)", "bed(0, 3)", "night()")
            .does("tale(0, 0, 0)").yard("wall 2", 0).fed("wall").due("undo()", 0).due("count(0)", 0).due("count(1)", 0).due("count(2)", 0)
            .due("count(3)", 0).due("told(0)", 0).due("told(8)", 0).due("told(9)", 0).due("told(10)", 5).due("told(20)", 0);
        five("an IMAGE of five BOYS, and of the whole of it", 1, 9).due("image()", 5).garden(2).does("kick(0, 0)").due("of(0, 2)", 1)
            .due("undo()", 5).due("of(0, 2)", 0).due("told(3)", 3).idle("boy(0, 0)", -4);
        Edge.of("THE IMAGE stays: one may undo again").due("image()", 0).does("boy(0, 0)").due("undo()", 0).does("boy(0, 0)", "boy(0, 0)")
            .due("undo()", 0).due("count(0)", 0);
        Edge.of("a newer IMAGE in place of the older").due("image()", 0).does("boy(0, 0)").due("image()", 1).does("boy(0, 0)")
            .due("undo()", 1).due("undo()", 1);
        Edge.of("all that there is (but THE TRACE)").does("boy(0, 0)", "act(0, 2, 1)", "image()", "act(0, 0, 1)").due("undo()", 1)
            .due("count(4)", 1).due("trace(0)", 1);
        Edge.of("all that there is: signs of THE TAPE").fed("wall 1").does("image()").fed("2").due("count(3)", 7).due("undo()", 0)
            .due("count(3)", 6).fed("3").due("yard()", 0).due("told(10)", 13).due("undo()", 0).due("told(10)", 5).due("yard()", 0)
            .due("told(10)", 1);
        Edge.of("all that there is: five YARDS, then fewer").yard("wall 1", 0).does("image()").yard("wall 2", 1).yard("wall 3", 2)
            .yard("wall 4", 3).yard("wall 6", 4).fed("wall 7").due("yard()", -4).due("undo()", 0).due("count(1)", 1).due("told(10)", 1)
            .yard("wall 8", 1).due("told(10)", 8);
        Edge.of("as: a KIND k (0 .. 6), or one under that").does("boy(6, 8)").due("as(0, 6)", 8).due("as(0, 3)", 8).due("as(0, 0)", 8)
            .idle("as(0, 1)", -6).idle("as(0, 5)", -6).idle("as(0, -1)", -1).idle("as(0, 7)", -1).idle("as(1, 0)", -1).idle("as(1, 7)", -1)
            .does("boy(3, 7)").due("as(1, 3)", 7).idle("as(1, 6)", -6);
        Edge.of("count: no such what").idle("count(-1)", -1).idle("count(5)", -1);
    }
}
