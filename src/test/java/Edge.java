/** One sentence of the document that names an edge, and calls on a new object that show it. */
final class Edge {
    private final OverFence x = new OverFence();
    private final String sentence;

    private Edge(String sentence) {
        this.sentence = sentence;
    }

    static Edge of(String sentence) {
        return new Edge(sentence);
    }

    /** Calls whose answers are not looked at here. */
    Edge does(String... calls) {
        for (String call : calls) Calls.call(x, call);
        return this;
    }

    Edge due(String call, long answer) {
        Check.due(sentence + ": " + call, Calls.call(x, call), answer);
        return this;
    }

    /** A fraction by its two parts; the call is told without its part: odds(0, 1 */
    Edge fraction(String call, long above, long below) {
        return due(call + ", 0)", above).due(call + ", 1)", below);
    }

    Edge fed(String text) {
        Check.feed(x, text);
        return this;
    }

    Edge yard(String text, int answer) {
        Check.due(sentence + ": '" + text + "'", Check.yardOf(x, text), answer);
        return this;
    }

    /** The same call so many times, each with the same answer. */
    Edge times(int n, String call, long answer) {
        for (int i = 0; i < n; i++) due(call, answer);
        return this;
    }

    /** Every bed becomes this. */
    Edge garden(int what) {
        for (int bed = 0; bed < 10; bed++) x.bed(bed, what);
        return this;
    }

    /** A call that changes nothing that can be seen. */
    Edge idle(String call, long answer) {
        String before = Check.seen(x);
        due(call, answer);
        Check.holds(sentence + ": " + call + " changes nothing", before.equals(Check.seen(x)));
        return this;
    }
}
