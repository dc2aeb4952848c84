import java.util.Random;

/** All promises: long random runs, each answer compared with the Model's. */
public final class RandomRunsTest {
    private static final int CALLS = 512;

    private final Random random;
    private final OverFence x = new OverFence();
    private final Model m = new Model();
    private final StringBuilder pending = new StringBuilder();
    private final int run;
    private int call;

    private RandomRunsTest(int run) {
        this.run = run;
        this.random = new Random(run);
    }

    public static void main(String[] args) {
        int runs = args.length > 0 ? Integer.parseInt(args[0]) : 400;
        for (int run = 1; run <= runs; run++) {
            RandomRunsTest test = new RandomRunsTest(run);
            for (test.call = 0; test.call < CALLS; test.call++) test.step();
        }
        Check.end();
    }

    /** Mostly from 0 up to most, now and then a little outside, rarely far. */
    private int some(int most) {
        int way = random.nextInt(60);
        if (way == 0) return -1;
        if (way == 1) return most + 1;
        if (way == 2 && random.nextInt(8) == 0) return random.nextInt();
        return random.nextInt(most + 1);
    }

    private int someBoy() {
        int boys = m.count(0);
        return boys == 0 || random.nextInt(12) == 0 ? some(5) : random.nextInt(boys);
    }

    private void due(String name, long got, long want) {
        Check.due("run " + run + ", call " + call + ": " + name, got, want);
    }

    private void step() {
        if (pending.length() > 0 && random.nextInt(10) > 0) {
            int sign = pending.charAt(0);
            pending.deleteCharAt(0);
            due("feed(" + sign + ")", x.feed(sign), m.feed(sign));
            if (pending.length() == 0) due("yard()", x.yard(), m.yard());
            return;
        }
        int boy = someBoy();
        int a = some(9);
        switch (random.nextInt(32)) {
            case 0: feeding(); break;
            case 1: yarding(); break;
            case 2: case 3: boying(); break;
            case 4: { int w = some(2); due("of", x.of(boy, w), m.of(boy, w)); break; }
            case 5: case 6: { int w = some(3); due("bed", x.bed(a, w), m.bed(a, w)); break; }
            case 7: setting(); break;
            case 8: { int w = some(30); due("told " + w, x.told(w), m.told(w)); break; }
            case 9: due("height", x.height(boy, a), m.height(boy, a)); break;
            case 10: due("falls", x.falls(boy, a), m.falls(boy, a)); break;
            case 11: case 12: case 13: case 14: due("kick", x.kick(boy, a), m.kick(boy, a)); break;
            case 15: due("night", x.night(), m.night()); break;
            default: asking(boy, a); break;
        }
    }

    private void feeding() {
        int sign = some(127);
        due("feed", x.feed(sign), m.feed(sign));
    }

    private void yarding() {
        if (random.nextInt(3) == 0) {
            due("yard", x.yard(), m.yard());
            return;
        }
        pending.setLength(0);
        pending.append(YardTextTest.someText(random, 30));
        if (random.nextInt(4) == 0) pending.setLength(1 + random.nextInt(pending.length()));
    }

    private void boying() {
        if (random.nextInt(3) > 0 && m.count(0) > random.nextInt(6)) return;
        int kind = some(6);
        int v = some(9);
        due("boy", x.boy(kind, v), m.boy(kind, v));
    }

    private void setting() {
        int what = some(4);
        int[] most = {3, 20, 9, 99, 23};
        int n = what < 0 || what > 4 ? some(3) : some(random.nextInt(3) == 0 ? most[what] : Math.min(most[what], 6));
        if (what == 4 && random.nextInt(3) == 0) n = m.told(11);
        due("set", x.set(what, n), m.set(what, n));
    }

    private void asking(int boy, int a) {
        int part = some(1);
        switch (random.nextInt(16)) {
            case 0: { int w = some(4); due("odds", x.odds(boy, w, part), m.odds(boy, w, part)); break; }
            case 1: due("turn", x.turn(part), m.turn(part)); break;
            case 2: { int n = some(50); due("need", x.need(n), m.need(n)); break; }
            case 3: due("bar", x.bar(part), m.bar(part)); break;
            case 4: {
                int n = random.nextInt(4) == 0 ? some(12) : some(4);
                int w = some(3);
                due("round " + n + " " + w, x.round(n, w, part), m.round(n, w, part));
                break;
            }
            case 5: { int n = random.nextInt(6) > 0 ? some(2) : some(8); due("rule", x.rule(n), m.rule(n)); break; }
            case 6: { int w = some(2); due("owes", x.owes(boy, w, part), m.owes(boy, w, part)); break; }
            case 7: due("who", x.who(a), m.who(a)); break;
            case 8: due("cover", x.cover(part), m.cover(part)); break;
            case 9: case 10: telling(boy, a); break;
            case 11: due("looked", x.looked(), m.looked()); break;
            case 12: acting(boy); break;
            case 13: { int k = some(6); due("as", x.as(boy, k), m.as(boy, k)); break; }
            case 14: { int w = some(4); due("count", x.count(w), m.count(w)); break; }
            default: imaging(); break;
        }
    }

    private void telling(int boy, int a) {
        if (random.nextInt(12) == 0) due("no tales", x.tale(-1, a, a), m.tale(-1, a, a));
        int end = some(4);
        // One that fits by chance is rare: so most are tried out on the Model.
        if (boy >= 0 && random.nextInt(8) > 0) {
            for (int e = 0; e < 5 && m.count(2) < 12; e++) {
                if (m.tale(boy, a, e) < 0) break;
                boolean fits = m.looked() == -5;
                if (fits) {
                    due("tale", x.tale(boy, a, e), m.count(2));
                    due("looked", x.looked(), -5);
                    return;
                }
                m.dropTale();
            }
        }
        due("tale", x.tale(boy, a, end), m.tale(boy, a, end));
    }

    private void acting(int boy) {
        int act = some(2);
        int arg = random.nextBoolean() ? random.nextInt() : random.nextInt(20);
        due("act", x.act(boy, act, arg), m.act(boy, act, arg));
        for (int i = -1; i < 8; i++) due("trace", x.trace(i), m.trace(i));
    }

    private void imaging() {
        if (random.nextBoolean()) due("image", x.image(), m.image());
        else due("undo", x.undo(), m.undo());
    }
}
