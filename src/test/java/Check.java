/** What the project's tests share: they tell every answer that is not as due, and end with 1 then. */
final class Check {
    private static int wrong = 0;
    private static int asked = 0;

    private Check() {
    }

    static void due(String what, long got, long want) {
        asked++;
        if (got == want) return;
        wrong++;
        if (wrong <= 50) System.out.println(what + " answered " + got + ", due is " + want);
    }

    static void holds(String what, boolean truth) {
        due(what, truth ? 1 : 0, 1);
    }

    /** Feeds a text sign by sign and takes it for a yard. */
    static int yardOf(OverFence x, String text) {
        feed(x, text);
        return x.yard();
    }

    static void feed(OverFence x, String text) {
        for (int i = 0; i < text.length(); i++) x.feed(text.charAt(i));
    }

    /** All that can be seen of an object, so that one can tell that a call changed nothing. */
    static String seen(OverFence x) {
        StringBuilder all = new StringBuilder();
        for (int what = 0; what < 30; what++) all.append(x.told(what)).append(' ');
        for (int what = 0; what < 5; what++) all.append(x.count(what)).append(' ');
        for (int b = 0; b < x.count(0); b++) {
            for (int what = 0; what < 3; what++) all.append(x.of(b, what)).append(' ');
            for (int aim = 0; aim < 10; aim++) all.append(x.height(b, aim)).append(' ');
        }
        for (int i = 0; i < x.count(4); i++) all.append(x.trace(i)).append(' ');
        return all.append(x.looked()).toString();
    }

    /** A call that is refused: its answer, and that nothing that can be seen is otherwise than before. */
    static void refused(OverFence x, String before, String what, long got, long want) {
        due(what, got, want);
        holds(what + " changes nothing", before.equals(seen(x)));
    }

    static void end() {
        System.out.println(wrong == 0 ? asked + " answers are as due" : wrong + " of " + asked + " answers are not as due");
        if (wrong != 0 || asked == 0) System.exit(1);
    }
}
