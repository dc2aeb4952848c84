import java.math.BigInteger;
import java.util.ArrayList;
import java.util.HashMap;
import java.util.List;
import java.util.Map;

/** A second, slow reading of the document, made otherwise than the class: texts, lists, maps. */
final class Model {
    private static final long NO = Long.MIN_VALUE;
    private static final int[] ABOVE = {-1, 0, 0, 0, 1, 2, 3};

    /** Balls, kept, lodged, overs: what a kick can change and a later one can see. */
    private record Balls(int yard, int kept, int lodged, int overs) { }

    private List<int[]> boys = new ArrayList<>();
    private int goal = 0, net = 0, back = 2, hour = 15, crushed = 0, day = 0;
    private Balls balls = new Balls(3, 0, 0, 0);
    private int[] beds = new int[10];
    private String tape = "";
    private List<String> yards = new ArrayList<>();
    private List<int[]> tales = new ArrayList<>();
    private Model image = null;
    private List<Integer> trace = new ArrayList<>();

    private void copy(Model m) {
        boys = new ArrayList<>();
        for (int[] b : m.boys) boys.add(b.clone());
        goal = m.goal;
        net = m.net;
        back = m.back;
        hour = m.hour;
        crushed = m.crushed;
        day = m.day;
        balls = m.balls;
        beds = m.beds.clone();
        tape = m.tape;
        yards = new ArrayList<>(m.yards);
        tales = new ArrayList<>(m.tales);
    }

    // ---- yards, boys, beds

    int feed(int sign) {
        if (sign < 0 || sign > 127) return -2;
        if (tape.length() == 100) return -4;
        tape += (char) sign;
        return tape.length();
    }

    int yard() {
        if (yards.size() == 5) return -4;
        String text = tape;
        tape = "";
        int fault = YardTextTest.faultByTheRules(text);
        if (fault >= 0) return -10 - fault;
        yards.add(text);
        return yards.size() - 1;
    }

    int boy(int kind, int v) {
        if (kind < 0 || kind > 6) return -1;
        if (v < 0 || v > 9) return -2;
        if (boys.size() == 5) return -4;
        boys.add(new int[] {kind, v, 0});
        return boys.size() - 1;
    }

    private boolean no(int boy) {
        return boy < 0 || boy >= boys.size();
    }

    int of(int boy, int what) {
        return no(boy) || what < 0 || what > 2 ? -1 : boys.get(boy)[what];
    }

    int bed(int bed, int what) {
        if (bed < 0 || bed > 9) return -1;
        if (what < 0 || what > 3) return -2;
        int was = beds[bed];
        beds[bed] = what;
        return was;
    }

    int set(int what, int n) {
        if (what < 0 || what > 4) return -1;
        int most = what == 0 ? 3 : what == 1 ? 20 : what == 2 ? 9 : what == 3 ? 99 : 23;
        if (n < 0 || n > most) return -2;
        int was = told(what);
        if (what == 0) goal = n;
        if (what == 1) net = n;
        if (what == 2) back = n;
        if (what == 3) balls = new Balls(n, balls.kept, balls.lodged, balls.overs);
        if (what == 4) hour = n;
        return was;
    }

    int told(int what) {
        if (what >= 20 && what <= 29) return beds[what - 20];
        if (what < 0 || what > 11) return -1;
        return new int[] {goal, net, back, balls.yard, hour, balls.kept, balls.lodged, crushed, balls.overs, day,
            last("wall", 5), last("supper", 18)}[what];
    }

    private String[] clauses() {
        return yards.isEmpty() ? new String[0] : yards.get(yards.size() - 1).split(";");
    }

    private int last(String word, int without) {
        int n = without;
        for (String clause : clauses()) {
            String[] parts = clause.split(" ");
            if (parts[0].equals(word)) n = Integer.parseInt(parts[1]);
        }
        return n;
    }

    // ---- kicks

    private boolean true_(String e, Map<Character, Integer> kick) {
        int at = outer(e, '|');
        if (at >= 0) return true_(e.substring(0, at), kick) | true_(e.substring(at + 1), kick);
        at = outer(e, '&');
        if (at >= 0) return true_(e.substring(0, at), kick) & true_(e.substring(at + 1), kick);
        if (e.charAt(0) == '!') return !true_(e.substring(1), kick);
        if (e.charAt(0) == '(') return true_(e.substring(1, e.length() - 1), kick);
        int value = kick.get(e.charAt(0));
        int n = Integer.parseInt(e.substring(2));
        return e.charAt(1) == '<' ? value < n : e.charAt(1) == '>' ? value > n : value == n;
    }

    /** The last such sign outside of all brackets. */
    private static int outer(String e, char sign) {
        int open = 0;
        for (int i = e.length() - 1; i >= 0; i--) {
            if (e.charAt(i) == ')') open++;
            if (e.charAt(i) == '(') open--;
            if (open == 0 && e.charAt(i) == sign) return i;
        }
        return -1;
    }

    private int high(int boy, int aim, int kept, int g, int n) {
        int kind = boys.get(boy)[0];
        int sum = aim + boys.get(boy)[1];
        if (kind == 1) sum += aim;
        if (kind == 4) sum += aim + 3 * (aim & 1);
        if (kind == 2 || kind == 5) sum /= 2;
        if (kind == 3) sum -= kept;
        if (kind == 6) sum -= 2 * kept;
        Map<Character, Integer> kick = new HashMap<>();
        kick.put('b', boy);
        kick.put('k', kind);
        kick.put('a', aim);
        kick.put('g', g);
        kick.put('n', n);
        kick.put('h', hour);
        for (String clause : clauses()) {
            String[] parts = clause.split(" ");
            if (parts[0].equals("lift") && true_(parts[2], kick)) sum += Integer.parseInt(parts[1]);
            if (parts[0].equals("duck") && true_(parts[2], kick)) sum -= Integer.parseInt(parts[1]);
        }
        return sum;
    }

    private boolean over(int boy, int aim, int kept, int g, int n) {
        return high(boy, aim, kept, g, n) > last("wall", 5) + n;
    }

    private int ground(int boy, int aim) {
        int place = (aim + 2 * goal + boys.get(boy)[1]) % 10;
        if (boys.get(boy)[0] != 5) return place;
        return place == 9 ? 0 : place + 1;
    }

    private int end(int boy, int aim, Balls b, int throwsBack) {
        if (!over(boy, aim, b.kept, goal, net)) return 0;
        int bed = beds[ground(boy, aim)];
        if (bed == 2) return 3;
        if (bed == 3) return 4;
        return b.overs + 1 <= throwsBack && hour != last("supper", 18) ? 1 : 2;
    }

    private static Balls after(Balls b, int end) {
        if (end == 0) return b;
        if (end == 1) return new Balls(b.yard, b.kept, b.lodged, b.overs + 1);
        if (end == 4) return new Balls(b.yard - 1, b.kept, b.lodged + 1, b.overs + 1);
        return new Balls(b.yard - 1, b.kept + 1, b.lodged, b.overs + 1);
    }

    int height(int boy, int aim) {
        if (no(boy)) return -1001;
        return aim < 0 || aim > 9 ? -1002 : high(boy, aim, balls.kept, goal, net);
    }

    int falls(int boy, int aim) {
        if (no(boy)) return -1;
        if (aim < 0 || aim > 9) return -2;
        return over(boy, aim, balls.kept, goal, net) ? ground(boy, aim) : -5;
    }

    int kick(int boy, int aim) {
        if (no(boy)) return -1;
        if (aim < 0 || aim > 9) return -2;
        if (balls.yard == 0) return -3;
        int end = end(boy, aim, balls, back);
        if (end == 3) boys.get(boy)[2]++;
        if (end > 0 && beds[ground(boy, aim)] == 1) crushed++;
        balls = after(balls, end);
        return end;
    }

    int night() {
        if (day == 999) return -3;
        day++;
        hour = 15;
        balls = day % 7 == 0
            ? new Balls(balls.yard + balls.kept, 0, balls.lodged, 0)
            : new Balls(balls.yard, balls.kept, balls.lodged, 0);
        return day;
    }

    // ---- odds, what to do

    private static long part(BigInteger above, BigInteger below, int part) {
        BigInteger shared = above.gcd(below);
        return (part == 0 ? above : below).divide(shared).longValueExact();
    }

    private static long part(long above, long below, int part) {
        return part(BigInteger.valueOf(above), BigInteger.valueOf(below), part);
    }

    long odds(int boy, int what, int part) {
        if (no(boy) || what < 0 || what > 4 || part < 0 || part > 1) return NO;
        int n = 0;
        for (int aim = 0; aim < 10; aim++) if (end(boy, aim, balls, back) == what) n++;
        return part(n, 10, part);
    }

    private int overs(int g, int n) {
        int sum = 0;
        for (int b = 0; b < boys.size(); b++) {
            for (int aim = 0; aim < 10; aim++) sum += over(b, aim, balls.kept, g, n) ? 1 : 0;
        }
        return sum;
    }

    int turn(int what) {
        if (what < 0 || what > 1) return -1;
        int best = 3;
        for (int g = 2; g >= 0; g--) if (overs(g, net) <= overs(best, net)) best = g;
        return what == 0 ? best : overs(best, net);
    }

    int need(int n) {
        if (n < 0 || n > 50) return -2;
        int least = -5;
        for (int height = 20; height >= 0; height--) if (overs(goal, height) <= n) least = height;
        return least;
    }

    int bar(int what) {
        if (what < 0 || what > 1) return -1;
        int best = -1;
        int most = -1;
        for (int aim = 0; aim < 10; aim++) {
            int n = 0;
            for (int b = 0; b < boys.size(); b++) n += over(b, aim, balls.kept, goal, net) ? 1 : 0;
            if (n > most) {
                most = n;
                best = aim;
            }
        }
        return what == 0 ? best : most;
    }

    /** In how many ways of all it comes to what. */
    private Map<Balls, BigInteger> ways(int n, int throwsBack) {
        Map<Balls, BigInteger> ways = new HashMap<>();
        ways.put(balls, BigInteger.ONE);
        for (int k = 0; k < n; k++) {
            Map<Balls, BigInteger> next = new HashMap<>();
            for (Map.Entry<Balls, BigInteger> way : ways.entrySet()) {
                Balls b = way.getKey();
                for (int aim = 0; aim < 10; aim++) {
                    boolean goes = !boys.isEmpty() && b.yard > 0;
                    Balls then = goes ? after(b, end(k % boys.size(), aim, b, throwsBack)) : b;
                    next.merge(then, way.getValue(), BigInteger::add);
                }
            }
            ways = next;
        }
        return ways;
    }

    private BigInteger sum(int n, int throwsBack, int what) {
        BigInteger sum = BigInteger.ZERO;
        for (Map.Entry<Balls, BigInteger> way : ways(n, throwsBack).entrySet()) {
            Balls b = way.getKey();
            int value = new int[] {b.yard, b.kept, b.lodged, b.overs}[what];
            sum = sum.add(way.getValue().multiply(BigInteger.valueOf(value)));
        }
        return sum;
    }

    long round(int n, int what, int part) {
        if (n < 0 || n > 12 || what < 0 || what > 3 || part < 0 || part > 1) return NO;
        return part(sum(n, back, what), BigInteger.TEN.pow(n), part);
    }

    int rule(int n) {
        if (n < 0 || n > 12) return -2;
        int best = 9;
        BigInteger least = sum(n, 9, 3);
        for (int b = 8; b >= 0; b--) {
            BigInteger mean = sum(n, b, 3);
            if (mean.compareTo(least) <= 0) {
                best = b;
                least = mean;
            }
        }
        return best;
    }

    // ---- who pays, who it was

    long owes(int boy, int law, int part) {
        if (no(boy) || law < 0 || law > 2 || part < 0 || part > 1) return NO;
        long sum = 0;
        for (int b = 0; b < boys.size(); b++) {
            long price = 400L * boys.get(b)[2];
            if (law == 0 && b == boy) sum += price;
            if (law == 1) sum += price;
            if (law == 2 && (b + 1) % boys.size() == boy) sum += price;
        }
        return part(sum, law == 1 ? boys.size() : 1, part);
    }

    int who(int bed) {
        if (bed < 0 || bed > 9) return -1;
        int bits = 0;
        for (int b = 0; b < boys.size(); b++) {
            for (int aim = 0; aim < 10; aim++) if (falls(b, aim) == bed) bits |= 1 << b;
        }
        return bits;
    }

    int cover(int what) {
        if (what < 0 || what > 1) return -1;
        int[] on = new int[10];
        for (int b = 0; b < boys.size(); b++) {
            for (int aim = 0; aim < 10; aim++) if (falls(b, aim) >= 0) on[falls(b, aim)]++;
        }
        int best = -5;
        for (int bed = 9; bed >= 0; bed--) if (beds[bed] == 2 && (best < 0 || on[bed] >= on[best])) best = bed;
        return best < 0 ? -5 : what == 0 ? best : on[best];
    }

    // ---- tales

    int tale(int boy, int aim, int told) {
        if (boy == -1) tales.clear();
        if (boy == -1) return 0;
        if (no(boy)) return -1;
        if (aim < 0 || aim > 9 || told < 0 || told > 4) return -2;
        if (tales.size() == 12) return -4;
        tales.add(new int[] {boy, aim, told});
        return tales.size();
    }

    /** Not of the document: a test takes back a tale that it only tried. */
    void dropTale() {
        tales.remove(tales.size() - 1);
    }

    int looked() {
        Balls b = balls;
        for (int i = 0; i < tales.size(); i++) {
            int[] t = tales.get(i);
            if (b.yard == 0 || end(t[0], t[1], b, back) != t[2]) return i;
            b = after(b, t[2]);
        }
        return -5;
    }

    // ---- acts, the image

    private int run(int from, int act, int x, int boy) {
        int kind = boys.get(boy)[0];
        int v = boys.get(boy)[1];
        int at = from;
        int body = body(at, act);
        while (body < 0) {
            at = ABOVE[at];
            body = body(at, act);
        }
        trace.add(body);
        switch (body) {
            case 1: return x + boy;
            case 2: return run(kind, 0, x, boy) - v;
            case 3: return run(kind, 1, x, boy) * 2;
            case 11: return run(ABOVE[at], 0, x * 3, boy);
            case 21: return -run(ABOVE[at], 1, x, boy);
            case 31: return run(ABOVE[at], 2, x, boy) ^ 7;
            case 41:
                int paid = run(ABOVE[at], 2, x - 1, boy);
                return paid + run(kind, 0, 2, boy);
            case 51: return run(ABOVE[at], 0, x, boy) ^ boy;
            default: return run(ABOVE[at], 1, x, boy) + v;
        }
    }

    private static int body(int kind, int act) {
        int[][] bodies = {{1, 2, 3}, {11, -1, -1}, {-1, 21, -1}, {-1, -1, 31}, {-1, -1, 41}, {51, -1, -1}, {-1, 61, -1}};
        return bodies[kind][act];
    }

    int act(int boy, int act, int x) {
        trace.clear();
        return no(boy) || act < 0 || act > 2 ? 0 : run(boys.get(boy)[0], act, x, boy);
    }

    int trace(int i) {
        return i < 0 || i >= trace.size() || i >= 20 ? -1 : trace.get(i);
    }

    int as(int boy, int k) {
        if (no(boy) || k < 0 || k > 6) return -1;
        for (int kind = boys.get(boy)[0]; kind >= 0; kind = ABOVE[kind]) if (kind == k) return boys.get(boy)[1];
        return -6;
    }

    int image() {
        image = new Model();
        image.copy(this);
        return boys.size();
    }

    int undo() {
        if (image == null) return -3;
        copy(image);
        return boys.size();
    }

    int count(int what) {
        if (what < 0 || what > 4) return -1;
        return new int[] {boys.size(), yards.size(), tales.size(), tape.length(), trace.size()}[what];
    }
}
