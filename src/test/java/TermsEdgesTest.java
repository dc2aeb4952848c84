/** 'Terms' of the document, sentence by sentence: what stands at the edges that they name. */
public final class TermsEdgesTest {
    public static void main(String[] args) {
        boys();
        numbersAtFirst();
        numbersByHand();
        tape();
        clauses();
        numbersInTexts();
        words();
        tests();
        open();
        faults();
        yards();
        heights();
        over();
        beds();
        kick();
        thrownBack();
        supper();
        night();
        Check.end();
    }

    // ---- boys, and the numbers that there are

    private static void boys() {
        Edge.of("BOYS are numbered from 0 on, 5 at most")
            .due("count(0)", 0).due("boy(0, 0)", 0).due("boy(0, 0)", 1).due("boy(0, 0)", 2).due("boy(0, 0)", 3)
            .due("boy(0, 0)", 4).idle("boy(0, 0)", -4).due("count(0)", 5).due("of(4, 0)", 0).due("of(5, 0)", -1);
        Edge.of("a KIND 0 .. 6")
            .idle("boy(-1, 0)", -1).idle("boy(7, 0)", -1).due("boy(0, 0)", 0).due("boy(6, 0)", 1)
            .due("of(0, 0)", 0).due("of(1, 0)", 6);
        Edge.of("a number v (0 .. 9)")
            .idle("boy(0, -1)", -2).idle("boy(0, 10)", -2).due("boy(0, 0)", 0).due("boy(0, 9)", 1)
            .due("of(0, 1)", 0).due("of(1, 1)", 9);
        Edge.of("PANES (0 at first)").garden(2).does("boy(1, 9)").due("of(0, 2)", 0)
            .due("kick(0, 0)", 3).due("of(0, 2)", 1).does("boy(1, 9)").due("of(1, 2)", 0);
        Edge.of("PANES (0 at first), of a BOY who comes where one was undone").garden(2)
            .does("image()", "boy(1, 9)", "kick(0, 0)").due("of(0, 2)", 1)
            .due("undo()", 0).due("boy(1, 9)", 0).due("of(0, 2)", 0);
    }

    private static void numbersAtFirst() {
        Edge first = Edge.of("at first");
        int[] due = {0, 0, 2, 3, 15, 0, 0, 0, 0, 0, 5, 18};
        for (int what = 0; what < due.length; what++) first.due("told(" + what + ")", due[what]);
        for (int bed = 0; bed < 10; bed++) first.due("told(" + (20 + bed) + ")", 0);
    }

    private static void byHand(String sentence, int what, int first, int most) {
        Edge.of(sentence)
            .idle("set(" + what + ", -1)", -2).idle("set(" + what + ", " + (most + 1) + ")", -2)
            .due("set(" + what + ", " + most + ")", first).due("told(" + what + ")", most)
            .idle("set(" + what + ", " + (most + 1) + ")", -2)
            .due("set(" + what + ", 0)", most).due("told(" + what + ")", 0)
            .idle("set(" + what + ", -1)", -2);
    }

    private static void numbersByHand() {
        byHand("GOAL: a side 0 .. 3 (0 at first)", 0, 0, 3);
        byHand("NET: 0 .. 20 (0 at first)", 1, 0, 20);
        byHand("BACK: how many balls a day she throws back (0 .. 9; 2 at first)", 2, 2, 9);
        byHand("BALLS in the yard (0 .. 99 by hand; 3 at first)", 3, 3, 99);
        byHand("HOUR: 0 .. 23 (15 at first)", 4, 15, 23);
        Edge.of("BEDS 0 .. 9")
            .idle("bed(-1, 0)", -1).idle("bed(10, 0)", -1).due("bed(0, 3)", 0).due("bed(9, 1)", 0)
            .due("told(20)", 3).due("told(29)", 1).due("told(21)", 0).due("told(28)", 0);
        Edge.of("each 0 lawn, 1 dahlias, 2 a pane, 3 roof")
            .idle("bed(4, -1)", -2).idle("bed(4, 4)", -2).due("bed(4, 3)", 0).due("bed(4, 0)", 3).due("bed(4, 0)", 0);
        Edge.of("BALLS: more than 99, when not by hand")
            .does("boy(1, 9)", "set(2, 0)", "kick(0, 0)", "kick(0, 0)", "set(3, 99)")
            .does("night()", "night()", "night()", "night()", "night()", "night()").due("told(3)", 99)
            .due("night()", 7).due("told(3)", 101).fraction("round(1, 0", 100, 1)
            .idle("set(3, 100)", -2).due("set(3, 99)", 101).due("told(3)", 99);
    }

    // ---- a yard's text

    /** So many bytes that are a yard, all of them tests that hold. */
    private static String textOf(int size) {
        StringBuilder text = new StringBuilder("lift 1 a<9");
        while (text.length() + 4 <= size) text.append("|a<9");
        for (int i = 0; text.length() < size; i++) text.insert(text.indexOf("9", 10 + 5 * i), '9');
        return text.toString();
    }

    private static void tape() {
        for (int size = 95; size <= 100; size++) {
            Check.due("size of a text", textOf(size).length(), size);
            Edge.of("THE TAPE (bytes, 100 at most), " + size + " are a YARD").does("boy(0, 0)")
                .yard(textOf(size), 0).due("count(3)", 0).due("height(0, 0)", 1);
        }
        Edge.of("THE TAPE (bytes, 100 at most)").fed(textOf(99)).due("count(3)", 99).due("feed(124)", 100)
            .idle("feed(97)", -4).due("yard()", -110).due("count(3)", 0).due("feed(97)", 1);
        Edge.of("FAULT: the last byte of a whole THE TAPE").fed(textOf(99)).due("feed(59)", 100).due("yard()", -110);
        Edge.of("FAULT: the last byte of a whole THE TAPE").fed(textOf(99)).due("feed(32)", 100).due("yard()", -109);
        Edge.of("a sign (0 .. 127)").idle("feed(-1)", -2).idle("feed(128)", -2)
            .due("feed(0)", 1).due("yard()", -10).due("feed(127)", 1).due("yard()", -10);
        Edge.of("a sign of 0 behind a YARD's is none of a YARD").fed("wall 1").due("feed(0)", 7).due("yard()", -16);
    }

    private static void fault(String sentence, String text, int place) {
        Edge.of(sentence).yard(text, place < 0 ? 0 : -10 - place);
    }

    private static void clauses() {
        String nine = "wall 1;wall 2;wall 3;wall 4;wall 5;wall 6;wall 7;wall 8;wall 9";
        String most = "CLAUSES, 10 at most";
        fault(most, nine, -1);
        fault(most, nine + ";", nine.length() + 1);
        fault(most, nine + ";supper 0", -1);
        fault(most, nine + ";lift 1 a=1", -1);
        fault(most, nine + ";lift 1 a=1;", nine.length() + 11);
        fault(most, nine + ";supper 0;", nine.length() + 9);
        fault(most, nine + ";supper 0;wall 1", nine.length() + 9);
        Edge.of("each of ten CLAUSES counts").does("boy(0, 0)")
            .yard("lift 1 a=0;lift 2 a=0;lift 4 a=0;lift 8 a=0;duck 32 a=0;wall 3;supper 4;wall 6;supper 5;lift 64 a=0", 0)
            .due("height(0, 0)", 47).due("height(0, 1)", 1).due("told(10)", 6).due("told(11)", 5);
        fault("a YARD has CLAUSES: none is too early an end", "", 0);
        fault("with ; between: none ahead", ";wall 1", 0);
        fault("with ; between: none behind", "wall 1;", 7);
        fault("with ; between: not two", "wall 1;;wall 1", 7);
        fault("with ; between: a clause ends with it alone", "wall 1,wall 1", 6);
        fault("with ; between", "wall 1wall 1", 6);
        fault("with ; between, with no blank behind it", "wall 1; wall 1", 7);
        fault("with ; between, with no blank ahead of it", "wall 1 ;wall 1", 6);
    }

    private static void numbersInTexts() {
        String n = "n 1 or 2 digits, no 0 ahead of another";
        String[] words = {"lift", "duck", "wall", "supper"};
        for (String word : words) {
            String behind = word.equals("lift") || word.equals("duck") ? " a=1" : "";
            int at = word.length() + 1;
            for (String right : new String[] {"0", "1", "9", "10", "99"}) fault(n, word + ' ' + right + behind, -1);
            fault(n, word + " 00" + behind, at + 1);
            fault(n, word + " 01" + behind, at + 1);
            fault(n, word + " 100" + behind, at + 2);
            fault(n, word + " -1" + behind, at);
            fault(n, word + " " + behind, at);
            fault(n, word + " /" + behind, at);
            fault(n, word + " :" + behind, at);
            fault(n, word + " 1/" + behind, at + 1);
            fault(n, word + " 1:" + behind, at + 1);
        }
        String likewise = "a TEST: a number likewise";
        for (String right : new String[] {"0", "1", "9", "10", "99"}) fault(likewise, "lift 1 a=" + right, -1);
        fault(likewise, "lift 1 a=00", 10);
        fault(likewise, "lift 1 a=09", 10);
        fault(likewise, "lift 1 a=100", 11);
        fault(likewise, "lift 1 a=", 9);
        fault(likewise, "lift 1 a=-1", 9);
        fault(likewise, "lift 1 a=b", 9);
        Edge.of("n of 0 and of 99").does("boy(0, 0)").yard("lift 0 a=0;lift 99 a=1;duck 99 a=2;duck 0 a=3;wall 0;supper 0", 0)
            .due("height(0, 0)", 0).due("height(0, 1)", 100).due("height(0, 2)", -97).due("height(0, 3)", 3)
            .due("told(10)", 0).due("told(11)", 0).yard("wall 99;supper 99", 1).due("told(10)", 99).due("told(11)", 99);
    }

    private static void words() {
        String blank = "one blank ahead of each part behind the word";
        fault(blank, "wall1", 4);
        fault(blank, "wall  1", 5);
        fault(blank, "wall\t1", 4);
        fault(blank, " wall 1", 0);
        fault(blank, "wall 1 ", 6);
        fault(blank, "lift 1a=1", 6);
        fault(blank, "lift 1  a=1", 7);
        fault(blank, "lift 1 a=1 ", 10);
        fault(blank, "lift 1 a =1", 8);
        fault(blank, "lift 1 a= 1", 9);
        fault(blank, "lift 1 ! a=1", 8);
        fault(blank, "lift 1 a=1 &a=1", 10);
        fault(blank, "duck 10a=1", 7);
        fault("wall n; supper n: no E", "wall 1 a=1", 6);
        fault("wall n; supper n: no E", "supper 1 a=1", 8);
        fault("lift n E; duck n E: not without E", "lift 1", 6);
        fault("lift n E; duck n E: not without E", "duck 1;wall 1", 6);
        for (String word : new String[] {"lift", "duck", "wall", "supper"}) {
            for (int size = 0; size < word.length(); size++) {
                fault("the size, if it ends too early", word.substring(0, size), size);
                fault("the first byte with which no YARD can go on", word.substring(0, size) + "z", size);
                fault("a word in small letters", word.substring(0, size) + Character.toUpperCase(word.charAt(size)), size);
            }
            fault("the size, if it ends too early", word, word.length());
            fault("the size, if it ends too early", word + " ", word.length() + 1);
            fault("no longer word", word + "s 1", word.length());
        }
    }

    // ---- tests, and what is open

    private static void holds(Edge edge, String test, int aim, boolean due, int yard) {
        edge.yard("lift 50 " + test, yard).due("height(0, " + aim + ")", aim + (due ? 50 : 0));
    }

    private static void tests() {
        String signs = "one of < = >";
        String[] tests = {"a<4", "a<5", "a<6", "a=4", "a=5", "a=6", "a>4", "a>5", "a>6"};
        boolean[] due = {false, false, true, false, true, false, true, false, false};
        for (int i = 0; i < tests.length; i++) holds(Edge.of(signs).does("boy(0, 0)"), tests[i], 5, due[i], 0);
        fault(signs, "lift 1 a<=5", 9);
        fault(signs, "lift 1 a>=5", 9);
        fault(signs, "lift 1 a!5", 8);
        fault(signs, "lift 1 a;5", 8);
        fault(signs, "lift 1 a?5", 8);
        fault(signs, "lift 1 5=a", 7);
        for (char c = 0; c < 128; c++) {
            int place = "bkagnh".indexOf(c) >= 0 ? 8 : c == '!' || c == '(' ? 8 : 7;
            fault("b or k or a or g or n or h", "lift 1 " + c, place);
        }
        Edge.of("a the AIM").does("boy(0, 0)").yard(ends("a", 9), 0).due("height(0, 0)", 20).due("height(0, 9)", 49);
        letter("g GOAL", "g", 0, 3);
        letter("n NET", "n", 1, 20);
        letter("h HOUR", "h", 4, 23);
        Edge.of("b the BOY's number, k the KIND").does("boy(6, 0)", "boy(0, 0)", "boy(0, 0)", "boy(0, 0)", "boy(5, 0)")
            .yard("lift 10 b=0;lift 20 b=4;lift 1 k=6;lift 2 k=5;lift 40 b>4;lift 40 k>6;lift 4 b<1;lift 5 b>3", 0)
            .due("height(0, 0)", 15).due("height(1, 0)", 0).due("height(3, 0)", 0).due("height(4, 0)", 27);
    }

    /** 20 if a letter is 0, the least, 40 if it is the most; no more beyond these. */
    private static String ends(String letter, int most) {
        return "lift 20 L=0;lift 40 L=M;lift 9 L<0;lift 9 L>M".replace("L", letter).replace("M", "" + most);
    }

    private static void letter(String sentence, String letter, int what, int most) {
        Edge.of(sentence).does("boy(0, 0)").yard(ends(letter, most), 0)
            .does("set(" + what + ", 0)").due("height(0, 0)", 20).does("set(" + what + ", " + most + ")").due("height(0, 0)", 40);
    }

    private static void open() {
        String most = "at most 5 of ! and ( are open";
        fault(most, "lift 1 !!!!!a=1", -1);
        fault(most, "lift 1 !!!!!!a=1", 12);
        fault(most, "lift 1 (((((a=1)))))", -1);
        fault(most, "lift 1 ((((((a=1))))))", 12);
        fault(most, "lift 1 !(!(!a=1))", -1);
        fault(most, "lift 1 !(!(!(a=1)))", 12);
        fault(most, "lift 1 (((((!a=1)))))", 12);
        fault(most, "lift 1 !!!!!(a=1)", 12);
        fault(most + " (the sixth, though it ends there)", "lift 1 !!!!!!", 12);
        fault(most + " (five, and it ends too early)", "lift 1 !!!!!", 12);
        fault(most + " (five, and it ends too early)", "lift 1 (((((a=1", 15);
        String closed = "a ( till its )";
        fault(closed, "lift 1 (((((a=1)))))&(((((a=1)))))", -1);
        fault(closed, "lift 1 ((((((a=1)", 12);
        fault(closed, "lift 1 (((((a=1)&(a=1)|(a=1))|(a=1))))", -1);
        fault(closed, "lift 1 (((((a=1&(a=1", 16);
        fault(closed, "lift 1 (((((a=1)|((a=1", 18);
        String ended = "a ! till its F ends";
        fault(ended, "lift 1 !!!!!a=1&!!!!!a=1|!!!!!a=1", -1);
        fault(ended, "lift 1 !(((!a=1&!a=1)))", -1);
        fault(ended, "lift 1 !((((a=1)&(a=1)|(a=1))))", -1);
        fault(ended, "lift 1 !(a=1)&(((((a=1)))))", -1);
        fault(ended, "lift 1 (!a=1&!!!!a=1)", -1);
        fault(ended, "lift 1 (!a=1&!!!!!a=1)", 17);
        fault(ended, "lift 1 !(a=1&((((a=1)))))", 16);
        fault("of each CLAUSE anew", "lift 1 !!!!!a=1;duck 1 (((((a=1)))))", -1);
        Edge.of("five ! and five ( hold as they should").does("boy(0, 0)")
            .yard("lift 10 !!!!!a=1;lift 20 (((((a=1)))));lift 40 !(!(!a=1))", 0).due("height(0, 1)", 21).due("height(0, 2)", 52);
    }

    private static void faults() {
        String end = "FAULT: the size, if it ends too early";
        String whole = "duck 12 !(a=34&b<1)|h>0;supper 7";
        for (int size = 0; size <= whole.length(); size++) {
            // Only behind the ')', behind the last number of the E, and behind the second clause may it end.
            boolean right = size == 19 || size == 23 || size == 32;
            fault(end, whole.substring(0, size), right ? -1 : size);
        }
        String first = "FAULT: the place of the first byte with which no YARD can go on";
        for (int at = 0; at < whole.length(); at++) {
            fault(first, whole.substring(0, at) + "~" + whole.substring(at + 1), at);
        }
        fault(first + ", not that of a later one", "wall 1;wall x;wall y;", 12);
        Edge.of("-10 less the FAULT (the one that held holds)").does("boy(0, 0)").yard("wall 7;supper 3;lift 5 a=0", 0)
            .yard("wall 9;supper 4;lift 6 a=0;x", -37).due("told(10)", 7).due("told(11)", 3).due("height(0, 0)", 5)
            .due("count(1)", 1).due("count(3)", 0).yard("wall 1", 1);
        Edge.of("-10 less the FAULT (none held: none holds)").does("boy(0, 0)").yard("wall 9;supper 4;lift 6 a=0;", -37)
            .due("told(10)", 5).due("told(11)", 18).due("height(0, 0)", 0).due("count(1)", 0);
    }

    private static void yards() {
        Edge.of("YARDS are numbered from 0 on, 5 at most; the newest one holds")
            .yard("wall 10", 0).due("told(10)", 10).yard("wall 11", 1).due("told(10)", 11).yard("wall 12", 2)
            .yard("wall 13", 3).yard("wall 14", 4).fed("wall 15").idle("yard()", -4).due("told(10)", 14).due("count(1)", 5)
            .due("count(3)", 7);
        Edge.of("FULL (THE TAPE stays)").yard("wall 0", 0).yard("wall 0", 1).yard("wall 0", 2).yard("wall 0", 3)
            .does("image()").yard("wall 0", 4).fed("wall 9").due("yard()", -4).due("count(3)", 6).due("feed(57)", 7)
            .due("undo()", 0).due("count(3)", 0).yard("wall 9", 4).due("told(10)", 9);
        Edge.of("FULL of an empty THE TAPE").yard("wall 0", 0).yard("wall 0", 1).yard("wall 0", 2).yard("wall 0", 3)
            .yard("wall 0", 4).idle("yard()", -4);
        Edge.of("without one there are no CLAUSES").does("boy(0, 3)").due("height(0, 4)", 7).due("told(10)", 5)
            .due("told(11)", 18).due("count(1)", 0);
        Edge.of("wall (5 without), supper (18 without)").yard("wall 9;supper 9", 0).yard("supper 4", 1).due("told(10)", 5)
            .due("told(11)", 4).yard("wall 4", 2).due("told(10)", 4).due("told(11)", 18)
            .yard("lift 1 a=1", 3).due("told(10)", 5).due("told(11)", 18);
        Edge.of("the last n holds").yard("wall 9;supper 8;wall 0;supper 23;supper 0;wall 2", 0)
            .due("told(10)", 2).due("told(11)", 0);
    }

    // ---- kicks

    private static void heights(int kind, int low, int high, int lowAndNine, int highAndNone) {
        Edge.of("HEIGHT, KIND " + kind).does("boy(" + kind + ", 0)", "boy(" + kind + ", 9)")
            .due("height(0, 0)", low).due("height(1, 9)", high).due("height(1, 0)", lowAndNine).due("height(0, 9)", highAndNone)
            .idle("height(0, -1)", -1002).idle("height(0, 10)", -1002).idle("height(2, 0)", -1001);
    }

    private static void heights() {
        heights(0, 0, 18, 9, 9);
        heights(1, 0, 27, 9, 18);
        heights(2, 0, 9, 4, 4);
        heights(3, 0, 18, 9, 9);
        heights(4, 0, 30, 9, 21);
        heights(5, 0, 9, 4, 4);
        heights(6, 0, 18, 9, 9);
        Edge.of("LOW: AIM and v, by 2 (cut)").does("boy(2, 1)", "boy(5, 2)").due("height(0, 0)", 0).due("height(0, 1)", 1)
            .due("height(0, 2)", 1).due("height(1, 0)", 1).due("height(1, 1)", 1).due("height(1, 2)", 2);
        Edge.of("LOW: cut ahead of what lifts and ducks").does("boy(2, 1)", "boy(5, 0)").yard("lift 1 a<5;duck 4 a>4", 0)
            .due("height(0, 2)", 2).due("height(0, 6)", -1).due("height(1, 1)", 1).due("height(1, 5)", -2);
        Edge.of("WILD: 3 more, if AIM is odd").does("boy(4, 1)").due("height(0, 0)", 1).due("height(0, 1)", 6)
            .due("height(0, 8)", 17).due("height(0, 9)", 22);
        Edge.of("WILD: if AIM is odd, not v").does("boy(4, 2)").due("height(0, 1)", 7).due("height(0, 2)", 6);
        Edge.of("less KEPT, less twice KEPT: below 0 too").does("boy(3, 0)", "boy(6, 0)", "boy(1, 9)", "set(2, 0)")
            .due("height(0, 0)", 0).due("height(1, 0)", 0).times(3, "kick(2, 9)", 2).due("told(5)", 3)
            .due("height(0, 0)", -3).due("height(0, 9)", 6).due("height(1, 0)", -6).due("height(1, 9)", 3).due("height(2, 0)", 9);
        Edge.of("the n of all lift whose E holds, less those of all duck").does("boy(0, 0)")
            .yard("lift 99 a<2;lift 99 a<1;lift 99 a<9;duck 99 a>8;duck 99 a>7;duck 1 a=1", 0)
            .due("height(0, 0)", 297).due("height(0, 1)", 198).due("height(0, 8)", 8).due("height(0, 9)", -189);
    }

    private static void over() {
        String above = "OVER, if HEIGHT is above wall and NET, together";
        Edge.of(above).does("boy(0, 0)").due("falls(0, 5)", -5).due("falls(0, 6)", 6).due("kick(0, 5)", 0).due("kick(0, 6)", 1)
            .does("set(1, 3)").due("falls(0, 8)", -5).due("falls(0, 9)", 9).does("set(1, 4)").due("falls(0, 9)", -5);
        Edge.of(above + " (both 0)").does("boy(0, 0)").yard("wall 0", 0).due("falls(0, 0)", -5).due("falls(0, 1)", 1);
        Edge.of(above + " (both the most)").does("boy(0, 9)", "set(1, 20)").yard("wall 99;lift 99 a=9;lift 2 a=9", 0)
            .due("height(0, 9)", 119).due("falls(0, 9)", -5).yard("wall 99;lift 99 a=9;lift 3 a=9", 1).due("falls(0, 9)", 8);
        Edge.of(above + " (below 0)").does("boy(0, 0)").yard("wall 0;duck 3 a<9", 0).due("falls(0, 2)", -5)
            .due("falls(0, 3)", -5).due("falls(0, 4)", 4);
    }

    private static void beds() {
        String modulo = "the BED (AIM, and twice GOAL, and v, together) modulo 10";
        Edge.of(modulo).does("boy(1, 9)").due("falls(0, 0)", 9).due("falls(0, 1)", 0).due("falls(0, 9)", 8)
            .does("set(0, 3)").due("falls(0, 0)", 5).due("falls(0, 4)", 9).due("falls(0, 5)", 0).due("falls(0, 9)", 4);
        Edge.of("BENT: 1 more (9: 0 then)").does("boy(5, 9)", "boy(2, 9)").yard("wall 0", 0).due("falls(0, 9)", 9)
            .due("falls(0, 0)", 0).due("falls(1, 0)", 9).due("falls(0, 1)", 1).does("set(0, 3)").due("falls(0, 3)", 9)
            .due("falls(0, 4)", 0).due("falls(0, 9)", 5);
    }

    private static void kick() {
        Edge.of("A KICK: needs a ball in the yard").does("boy(1, 9)", "set(2, 0)", "set(3, 1)").due("kick(0, 0)", 2)
            .due("told(3)", 0).idle("kick(0, 0)", -3).idle("kick(0, 9)", -3).due("set(3, 1)", 0).due("kick(0, 0)", 2);
        Edge.of("A KICK: needs a ball, WITHIN too").does("boy(0, 0)", "set(3, 0)").idle("kick(0, 0)", -3);
        Edge.of("WITHIN (0): nothing changes").does("boy(0, 0)", "set(3, 1)").garden(2).idle("kick(0, 5)", 0).idle("kick(0, 0)", 0)
            .garden(3).idle("kick(0, 5)", 0).garden(1).idle("kick(0, 5)", 0);
        Edge.of("on a pane (3): PANES are 1 more, the ball is KEPT").does("boy(0, 0)", "boy(0, 0)", "set(2, 9)").garden(2)
            .due("kick(1, 9)", 3).due("of(1, 2)", 1).due("of(0, 2)", 0).due("told(3)", 2).due("told(5)", 1).due("told(6)", 0)
            .due("told(7)", 0).due("told(8)", 1);
        Edge.of("on the roof (4): it is LODGED").does("boy(0, 0)", "set(2, 9)").garden(3).due("kick(0, 9)", 4).due("told(3)", 2)
            .due("told(5)", 0).due("told(6)", 1).due("told(7)", 0).due("told(8)", 1).due("of(0, 2)", 0);
        Edge.of("on dahlias CRUSHED are 1 more, thrown back or KEPT").does("boy(0, 0)", "set(2, 1)").garden(1)
            .due("kick(0, 9)", 1).due("told(7)", 1).due("told(3)", 3).due("kick(0, 9)", 2).due("told(7)", 2).due("told(3)", 2)
            .due("told(5)", 1).due("kick(0, 5)", 0).due("told(7)", 2);
        Edge.of("on lawn: nothing is CRUSHED").does("boy(0, 0)").due("kick(0, 9)", 1).due("told(7)", 0).due("told(8)", 1);
    }

    private static void thrownBack() {
        String back = "if OVERS (with this one) are BACK or fewer";
        for (int n = 0; n <= 9; n++) {
            Edge edge = Edge.of(back + ", BACK " + n).does("boy(0, 0)", "set(2, " + n + ")").times(n, "kick(0, 9)", 1);
            edge.due("told(8)", n).due("told(3)", 3).due("kick(0, 9)", 2).due("told(8)", n + 1).due("told(3)", 2).due("told(5)", 1);
        }
        Edge.of(back + ": those on panes and on the roof too").does("boy(0, 0)", "bed(8, 2)", "bed(7, 3)", "set(2, 3)")
            .due("kick(0, 8)", 3).due("kick(0, 7)", 4).due("kick(0, 9)", 1).due("kick(0, 9)", 2);
        Edge.of(back + ": those WITHIN not").does("boy(0, 0)", "set(2, 1)").times(3, "kick(0, 5)", 0).due("kick(0, 9)", 1);
        Edge.of(back + ": those of today").does("boy(0, 0)", "set(2, 1)").due("kick(0, 9)", 1).due("kick(0, 9)", 2)
            .does("night()").due("kick(0, 9)", 1).due("kick(0, 9)", 2);
    }

    private static void supper() {
        String hour = "she throws it back, if HOUR is not supper";
        Edge.of(hour).does("boy(0, 0)", "set(2, 9)", "set(4, 17)").due("kick(0, 9)", 1).does("set(4, 18)").due("kick(0, 9)", 2)
            .does("set(4, 19)").due("kick(0, 9)", 1);
        Edge.of(hour + " (0)").does("boy(0, 0)", "set(2, 9)", "set(4, 0)").yard("supper 0", 0).due("kick(0, 9)", 2)
            .does("set(4, 23)").due("kick(0, 9)", 1).does("set(4, 1)").due("kick(0, 9)", 1);
        Edge.of(hour + " (23, and 24, which never is)").does("boy(0, 0)", "set(2, 9)", "set(4, 23)").yard("supper 23", 0)
            .due("kick(0, 9)", 2).yard("supper 24", 1).due("kick(0, 9)", 1).does("set(4, 0)").due("kick(0, 9)", 1);
        Edge.of("at supper a pane and the roof are as ever").does("boy(0, 0)", "bed(8, 2)", "bed(7, 3)", "set(4, 18)")
            .due("kick(0, 8)", 3).due("kick(0, 7)", 4);
    }

    private static void night() {
        Edge.of("A NIGHT: DAY is 1 more, OVERS are 0, HOUR is 15").does("boy(1, 9)", "bed(9, 1)", "bed(0, 3)", "set(4, 23)")
            .does("kick(0, 0)", "kick(0, 1)", "set(0, 3)", "set(1, 2)", "set(2, 7)").due("told(8)", 2)
            .due("night()", 1).due("told(9)", 1).due("told(8)", 0).due("told(4)", 15).due("told(0)", 3).due("told(1)", 2)
            .due("told(2)", 7).due("told(3)", 2).due("told(6)", 1).due("told(7)", 1);
        Edge sunday = Edge.of("if DAY is a multiple of 7 then, all KEPT are in the yard again").does("boy(1, 9)", "set(2, 0)")
            .does("bed(9, 3)", "bed(8, 2)", "kick(0, 0)", "kick(0, 9)").due("told(3)", 1).due("told(5)", 1).due("told(6)", 1);
        for (int day = 1; day < 7; day++) sunday.due("night()", day).due("told(5)", 1).due("told(3)", 1);
        sunday.due("night()", 7).due("told(5)", 0).due("told(3)", 2).due("told(6)", 1).due("of(0, 2)", 1);
        sunday.does("kick(0, 1)").due("told(5)", 1).due("night()", 8).due("told(5)", 1);
        for (int day = 9; day < 14; day++) sunday.due("night()", day).due("told(5)", 1);
        sunday.due("night()", 14).due("told(5)", 0).due("told(3)", 2);
        Edge last = Edge.of("DAY: 0 .. 999");
        for (int day = 1; day <= 999; day++) last.due("night()", day);
        last.idle("night()", -3).due("told(9)", 999);
    }
}
