import java.util.Arrays;

/** Balls over the fence: who kicks them, where they fall, what becomes of them, and who pays. */
public final class OverFence {
    public static final int NONE = -1, BAD = -2, STATE = -3, FULL = -4;
    public static final long NO = Long.MIN_VALUE;

    private static final int NOTHING = -5, OTHER_KIND = -6, NO_BOY = -1001, NO_AIM = -1002;

    private static final int KINDS = 7, AIMS = 10, SIDES = 4, BEDS = 10, GROUNDS = 4, ENDS = 5;
    private static final int BOYS_MOST = 5, V_MOST = 9, NET_MOST = 20, BACK_MOST = 9;
    private static final int DAY_MOST = 999, NEED_MOST = 50, KICKS_MOST = 12, PANE_PRICE = 400;
    private static final int TAPE_MOST = 100, SIGN_MOST = 127, YARDS_MOST = 5, TALES_MOST = 12;

    // The numbers of a Scene, in the order in which told() and set() name them.
    private static final int GOAL = 0, NET = 1, BACK = 2, BALLS = 3, HOUR = 4;
    private static final int KEPT = 5, LODGED = 6, CRUSHED = 7, OVERS = 8, DAY = 9;
    private static final int WALL = 10, SUPPER = 11, FIRST_BED = 20;
    private static final int[] AT_FIRST = {0, 0, 2, 3, 15, 0, 0, 0, 0, 0};
    private static final int[] BY_HAND_MOST = {3, 20, 9, 99, 23};
    private static final int HOUR_OF_A_NEW_DAY = 15, DAYS_OF_A_WEEK = 7;

    // What a bed is, and what becomes of a kick.
    private static final int DAHLIAS = 1, PANE = 2, ROOF = 3;
    private static final int WITHIN = 0, THROWN_BACK = 1, IS_KEPT = 2, ON_PANE = 3, IS_LODGED = 4;

    private final Scene now = new Scene();
    private final Scene imaged = new Scene();
    private final Scene trial = new Scene();
    private final Yard draft = new Yard();
    private final Chances chances = new Chances();
    private final Trace bodies = new Trace();
    private boolean hasImage;

    public OverFence() {
    }

    // ---- yards, boys, beds

    public int feed(int sign) {
        if (sign < 0 || sign > SIGN_MOST) return BAD;
        if (now.tapeSize >= TAPE_MOST) return FULL;
        now.tape[now.tapeSize] = (byte) sign;
        now.tapeSize++;
        return now.tapeSize;
    }

    public int yard() {
        if (now.yardCount >= YARDS_MOST) return FULL;
        int fault = draft.read(now.tape, now.tapeSize);
        now.tapeSize = 0;
        if (fault >= 0) return -10 - fault;
        now.yard.takeOver(draft);
        now.yardCount++;
        return now.yardCount - 1;
    }

    public int boy(int kind, int v) {
        if (kind < 0 || kind >= KINDS) return NONE;
        if (v < 0 || v > V_MOST) return BAD;
        if (now.boyCount >= BOYS_MOST) return FULL;
        int number = now.boyCount;
        now.boys[number] = newBoy(kind, number, v);
        now.boyCount++;
        return number;
    }

    public int of(int boy, int what) {
        Kick b = now.boyAt(boy);
        if (b == null) return NONE;
        switch (what) {
            case 0: return b.kind();
            case 1: return b.v;
            case 2: return now.panes[b.number];
            default: return NONE;
        }
    }

    public int bed(int bed, int what) {
        if (bed < 0 || bed >= BEDS) return NONE;
        if (what < 0 || what >= GROUNDS) return BAD;
        int was = now.beds[bed];
        now.beds[bed] = what;
        return was;
    }

    public int set(int what, int n) {
        if (what < 0 || what >= BY_HAND_MOST.length) return NONE;
        if (n < 0 || n > BY_HAND_MOST[what]) return BAD;
        int was = now.numbers[what];
        now.numbers[what] = n;
        return was;
    }

    public int told(int what) {
        if (what >= 0 && what < now.numbers.length) return now.numbers[what];
        if (what == WALL) return now.yard.wall;
        if (what == SUPPER) return now.yard.supper;
        if (what >= FIRST_BED && what < FIRST_BED + BEDS) return now.beds[what - FIRST_BED];
        return NONE;
    }

    // ---- kicks

    public int height(int boy, int aim) {
        Kick b = now.boyAt(boy);
        if (b == null) return NO_BOY;
        if (!isAim(aim)) return NO_AIM;
        return now.heightOf(b, aim, now.numbers[GOAL], now.numbers[NET]);
    }

    public int falls(int boy, int aim) {
        Kick b = now.boyAt(boy);
        if (b == null) return NONE;
        if (!isAim(aim)) return BAD;
        return now.goesOver(b, aim) ? now.bedOf(b, aim) : NOTHING;
    }

    public int kick(int boy, int aim) {
        Kick b = now.boyAt(boy);
        if (b == null) return NONE;
        if (!isAim(aim)) return BAD;
        if (now.numbers[BALLS] <= 0) return STATE;
        return now.play(b, aim);
    }

    public int night() {
        if (now.numbers[DAY] >= DAY_MOST) return STATE;
        now.sleep();
        return now.numbers[DAY];
    }

    // ---- odds, what to do

    public long odds(int boy, int what, int part) {
        Kick b = now.boyAt(boy);
        if (b == null || what < 0 || what >= ENDS || !isPart(part)) return NO;
        int aims = 0;
        for (int aim = 0; aim < AIMS; aim++) {
            if (now.becomes(b, aim) == what) aims++;
        }
        return partOf(aims, AIMS, part);
    }

    public int turn(int what) {
        if (what < 0 || what > 1) return NONE;
        int best = 0;
        int fewest = now.oversOfAll(0, now.numbers[NET]);
        for (int goal = 1; goal < SIDES; goal++) {
            int overs = now.oversOfAll(goal, now.numbers[NET]);
            if (overs < fewest) {
                best = goal;
                fewest = overs;
            }
        }
        return what == 0 ? best : fewest;
    }

    public int need(int n) {
        if (n < 0 || n > NEED_MOST) return BAD;
        for (int net = 0; net <= NET_MOST; net++) {
            if (now.oversOfAll(now.numbers[GOAL], net) <= n) return net;
        }
        return NOTHING;
    }

    public int bar(int what) {
        if (what < 0 || what > 1) return NONE;
        int best = 0;
        int most = now.oversByAim(0);
        for (int aim = 1; aim < AIMS; aim++) {
            int overs = now.oversByAim(aim);
            if (overs > most) {
                best = aim;
                most = overs;
            }
        }
        return what == 0 ? best : most;
    }

    public long round(int n, int what, int part) {
        if (n < 0 || n > KICKS_MOST || what < 0 || what > 3 || !isPart(part)) return NO;
        chances.run(now, n, now.numbers[BACK]);
        return partOf(chances.sumOf(now, what), chances.ways, part);
    }

    public int rule(int n) {
        if (n < 0 || n > KICKS_MOST) return BAD;
        int best = 0;
        long least = Long.MAX_VALUE;
        for (int back = 0; back <= BACK_MOST; back++) {
            chances.run(now, n, back);
            long overs = chances.sumOf(now, Chances.OVERS_THEN);
            if (overs < least) {
                best = back;
                least = overs;
            }
        }
        return best;
    }

    // ---- who pays, who it was

    public long owes(int boy, int law, int part) {
        Kick b = now.boyAt(boy);
        if (b == null || law < 0 || law > 2 || !isPart(part)) return NO;
        if (law == 1) return partOf((long) PANE_PRICE * now.allPanes(), now.boyCount, part);
        int kicker = law == 0 ? b.number : now.numberAhead(b.number);
        return partOf((long) PANE_PRICE * now.panes[kicker], 1, part);
    }

    public int who(int bed) {
        if (bed < 0 || bed >= BEDS) return NONE;
        int bits = 0;
        for (int i = 0; i < now.boyCount; i++) {
            Kick b = now.boyAt(i);
            if (b != null && now.kicksOnto(b, bed) > 0) bits |= 1 << i;
        }
        return bits;
    }

    public int cover(int what) {
        if (what < 0 || what > 1) return NONE;
        int best = NOTHING;
        int most = NOTHING;
        for (int bed = 0; bed < BEDS; bed++) {
            if (now.beds[bed] != PANE) continue;
            int kicks = now.kicksOfAllOnto(bed);
            if (kicks > most) {
                best = bed;
                most = kicks;
            }
        }
        return what == 0 ? best : most;
    }

    // ---- tales

    public int tale(int boy, int aim, int told) {
        if (boy == -1) {
            now.taleCount = 0;
            return 0;
        }
        if (now.boyAt(boy) == null) return NONE;
        if (!isAim(aim) || told < 0 || told >= ENDS) return BAD;
        if (now.taleCount >= TALES_MOST) return FULL;
        now.taleBoys[now.taleCount] = boy;
        now.taleAims[now.taleCount] = aim;
        now.taleEnds[now.taleCount] = told;
        now.taleCount++;
        return now.taleCount;
    }

    public int looked() {
        trial.takeOver(now);
        for (int i = 0; i < trial.taleCount; i++) {
            Kick b = trial.boyAt(trial.taleBoys[i]);
            if (b == null || trial.numbers[BALLS] <= 0) return i;
            if (trial.play(b, trial.taleAims[i]) != trial.taleEnds[i]) return i;
        }
        return NOTHING;
    }

    // ---- acts, the image

    public int act(int boy, int act, int x) {
        bodies.ran = 0;
        Kick b = now.boyAt(boy);
        if (b == null) return 0;
        switch (act) {
            case 0: return b.kicks(x, bodies);
            case 1: return b.fetches(x, bodies);
            case 2: return b.pays(x, bodies);
            default: return 0;
        }
    }

    public int trace(int i) {
        if (i < 0 || i >= bodies.ran || i >= bodies.first.length) return NONE;
        return bodies.first[i];
    }

    public int as(int boy, int k) {
        Kick b = now.boyAt(boy);
        if (b == null || k < 0 || k >= KINDS) return NONE;
        return isOfKind(b, k) ? b.v : OTHER_KIND;
    }

    public int image() {
        imaged.takeOver(now);
        hasImage = true;
        return now.boyCount;
    }

    public int undo() {
        if (!hasImage) return STATE;
        now.takeOver(imaged);
        return now.boyCount;
    }

    public int count(int what) {
        switch (what) {
            case 0: return now.boyCount;
            case 1: return now.yardCount;
            case 2: return now.taleCount;
            case 3: return now.tapeSize;
            case 4: return bodies.ran;
            default: return NONE;
        }
    }

    // ---- what several calls need

    private static boolean isAim(int aim) {
        return aim >= 0 && aim < AIMS;
    }

    private static boolean isPart(int part) {
        return part == 0 || part == 1;
    }

    /** Above (part 0) or below the line of a fraction in lowest terms; neither number is below 0. */
    private static long partOf(long above, long below, int part) {
        long shared = commonDivisor(above, below);
        long number = part == 0 ? above : below;
        return shared == 0 ? number : number / shared;
    }

    private static long commonDivisor(long a, long b) {
        long larger = a;
        long smaller = b;
        // Two longs share their divisor after fewer than a hundred steps; the bound only shows the end.
        for (int step = 0; step < 200 && smaller != 0; step++) {
            long rest = larger % smaller;
            larger = smaller;
            smaller = rest;
        }
        return larger;
    }

    private static Kick newBoy(int kind, int number, int v) {
        switch (kind) {
            case 1: return new Hard(number, v);
            case 2: return new Low(number, v);
            case 3: return new Shy(number, v);
            case 4: return new Wild(number, v);
            case 5: return new Bent(number, v);
            case 6: return new Paying(number, v);
            default: return new Kick(number, v);
        }
    }

    private static boolean isOfKind(Kick b, int kind) {
        switch (kind) {
            case 0: return true;
            case 1: return b instanceof Hard;
            case 2: return b instanceof Low;
            case 3: return b instanceof Shy;
            case 4: return b instanceof Wild;
            case 5: return b instanceof Bent;
            case 6: return b instanceof Paying;
            default: return false;
        }
    }

    /** The numbers of the bodies that ran in one act. */
    private static final class Trace {
        final int[] first = new int[20];
        int ran;

        void mark(int body) {
            if (ran < first.length) first[ran] = body;
            ran++;
        }
    }

    /** A boy, whose class is his KIND. He never changes, so that an image can share him. */
    private static class Kick {
        final int number;
        final int v;

        Kick(int number, int v) {
            this.number = number;
            this.v = v;
        }

        int kind() {
            return 0;
        }

        /** The height of a kick without what the yard lifts or keeps down. */
        int rise(int aim, int kept) {
            return aim + v;
        }

        /** By how many beds a kick falls further. */
        int bend() {
            return 0;
        }

        int kicks(int x, Trace bodies) {
            bodies.mark(1);
            return x + number;
        }

        int fetches(int x, Trace bodies) {
            bodies.mark(2);
            return kicks(x, bodies) - v;
        }

        int pays(int x, Trace bodies) {
            bodies.mark(3);
            return fetches(x, bodies) * 2;
        }
    }

    private static class Hard extends Kick {
        Hard(int number, int v) {
            super(number, v);
        }

        @Override
        int kind() {
            return 1;
        }

        @Override
        int rise(int aim, int kept) {
            return 2 * aim + v;
        }

        @Override
        int kicks(int x, Trace bodies) {
            bodies.mark(11);
            return super.kicks(x * 3, bodies);
        }
    }

    private static class Low extends Kick {
        Low(int number, int v) {
            super(number, v);
        }

        @Override
        int kind() {
            return 2;
        }

        @Override
        int rise(int aim, int kept) {
            return (aim + v) / 2;
        }

        @Override
        int fetches(int x, Trace bodies) {
            bodies.mark(21);
            return -super.fetches(x, bodies);
        }
    }

    private static class Shy extends Kick {
        Shy(int number, int v) {
            super(number, v);
        }

        @Override
        int kind() {
            return 3;
        }

        @Override
        int rise(int aim, int kept) {
            return aim + v - kept;
        }

        @Override
        int pays(int x, Trace bodies) {
            bodies.mark(31);
            return super.pays(x, bodies) ^ 7;
        }
    }

    private static final class Wild extends Hard {
        Wild(int number, int v) {
            super(number, v);
        }

        @Override
        int kind() {
            return 4;
        }

        @Override
        int rise(int aim, int kept) {
            int asHard = super.rise(aim, kept);
            return aim % 2 == 0 ? asHard : asHard + 3;
        }

        @Override
        int pays(int x, Trace bodies) {
            bodies.mark(41);
            return super.pays(x - 1, bodies) + kicks(2, bodies);
        }
    }

    private static final class Bent extends Low {
        Bent(int number, int v) {
            super(number, v);
        }

        @Override
        int kind() {
            return 5;
        }

        @Override
        int bend() {
            return 1;
        }

        @Override
        int kicks(int x, Trace bodies) {
            bodies.mark(51);
            return super.kicks(x, bodies) ^ number;
        }
    }

    private static final class Paying extends Shy {
        Paying(int number, int v) {
            super(number, v);
        }

        @Override
        int kind() {
            return 6;
        }

        @Override
        int rise(int aim, int kept) {
            return aim + v - 2 * kept;
        }

        @Override
        int fetches(int x, Trace bodies) {
            bodies.mark(61);
            return super.fetches(x, bodies) + v;
        }
    }

    /**
     * A yard: its clauses, read from a tape into steps for a stack of truths.
     * Each step holds what it does in its lowest eight bits and a number above them.
     */
    private static final class Yard {
        // A test's step is three times its letter's place and its sign's place; these come behind.
        static final int NOT = 18, AND = 19, OR = 20, LIFT = 21, DUCK = 22;
        static final byte[] NO_TEXT = {};
        static final String LETTERS = "bkagnh";
        static final String SIGNS = "<=>";
        static final int CLAUSES_MOST = 10, OPEN_MOST = 5, WALL_WITHOUT = 5, SUPPER_WITHOUT = 18;

        // No sign of the tape makes more than one step.
        final int[] steps = new int[TAPE_MOST];
        final int[] seen = new int[6];
        int stepCount;
        int wall = WALL_WITHOUT;
        int supper = SUPPER_WITHOUT;

        private byte[] text = NO_TEXT;
        private int size;
        private int at;
        private int fault;

        void takeOver(Yard other) {
            System.arraycopy(other.steps, 0, steps, 0, other.stepCount);
            stepCount = other.stepCount;
            wall = other.wall;
            supper = other.supper;
        }

        /** What all clauses that hold for this kick lift it, less what they keep it down. */
        int liftOf(Kick b, int aim, int goal, int net, int hour) {
            seen[0] = b.number;
            seen[1] = b.kind();
            seen[2] = aim;
            seen[3] = goal;
            seen[4] = net;
            seen[5] = hour;
            int lift = 0;
            // The lowest bit is the stack's top; with five open at most some thirteen bits stand on it.
            int truths = 0;
            for (int i = 0; i < stepCount; i++) {
                int what = steps[i] & 255;
                int n = steps[i] >> 8;
                switch (what) {
                    case NOT: truths ^= 1; break;
                    case AND: truths = (truths >> 1) & (truths | ~1); break;
                    case OR: truths = (truths >> 1) | (truths & 1); break;
                    case LIFT: lift += n * (truths & 1); truths >>= 1; break;
                    case DUCK: lift -= n * (truths & 1); truths >>= 1; break;
                    default: truths = truths << 1 | (holds(what, n) ? 1 : 0); break;
                }
            }
            return lift;
        }

        private boolean holds(int what, int n) {
            int letter = what / 3;
            if (letter >= seen.length) return false;
            int sign = seen[letter] < n ? 0 : seen[letter] == n ? 1 : 2;
            return sign == what % 3;
        }

        /** Becomes the yard that stands on the tape: the place of its fault, or -1. */
        int read(byte[] tape, int tapeSize) {
            text = tape;
            size = Math.min(tapeSize, tape.length);
            at = 0;
            fault = -1;
            stepCount = 0;
            wall = WALL_WITHOUT;
            supper = SUPPER_WITHOUT;
            for (int clause = 0; clause < CLAUSES_MOST && fault < 0; clause++) {
                if (clause > 0) skip(';');
                readClause();
                if (at >= size) return fault;
            }
            // What stands behind the last clause that there may be.
            fail();
            return fault;
        }

        private void readClause() {
            int word = readWord();
            skip(' ');
            int n = readNumber();
            if (word == LIFT || word == DUCK) {
                skip(' ');
                readEither(0);
                addStep(word, n);
            } else if (word == WALL) {
                wall = n;
            } else if (word == SUPPER) {
                supper = n;
            }
        }

        private int readWord() {
            if (sees('l')) return spell("lift", LIFT);
            if (sees('d')) return spell("duck", DUCK);
            if (sees('w')) return spell("wall", WALL);
            return spell("supper", SUPPER);
        }

        private int spell(String word, int meaning) {
            for (int i = 0; i < word.length(); i++) skip(word.charAt(i));
            return meaning;
        }

        private int readNumber() {
            if (!seesDigit()) {
                fail();
                return 0;
            }
            int n = text[at] - '0';
            at++;
            if (n != 0 && seesDigit()) {
                n = 10 * n + text[at] - '0';
                at++;
            }
            return n;
        }

        private void readEither(int open) {
            readBoth(open);
            for (int i = 0; i < size && sees('|'); i++) {
                at++;
                readBoth(open);
                addStep(OR, 0);
            }
        }

        private void readBoth(int open) {
            readFactor(open);
            for (int i = 0; i < size && sees('&'); i++) {
                at++;
                readFactor(open);
                addStep(AND, 0);
            }
        }

        private void readFactor(int open) {
            boolean negated = sees('!');
            if (!negated && !sees('(')) {
                readTest();
                return;
            }
            if (open >= OPEN_MOST) {
                fail();
                return;
            }
            at++;
            if (negated) {
                readFactor(open + 1);
                addStep(NOT, 0);
            } else {
                readEither(open + 1);
                skip(')');
            }
        }

        private void readTest() {
            int letter = readOneOf(LETTERS);
            int sign = readOneOf(SIGNS);
            int n = readNumber();
            addStep(3 * letter + sign, n);
        }

        private int readOneOf(String signs) {
            int place = fault < 0 && at < size ? signs.indexOf((char) text[at]) : -1;
            if (place < 0) {
                fail();
                return 0;
            }
            at++;
            return place;
        }

        private void addStep(int what, int n) {
            if (fault >= 0 || stepCount >= steps.length) return;
            steps[stepCount] = what | n << 8;
            stepCount++;
        }

        private boolean sees(char sign) {
            return fault < 0 && at < size && text[at] == sign;
        }

        private boolean seesDigit() {
            return fault < 0 && at < size && text[at] >= '0' && text[at] <= '9';
        }

        private void skip(char sign) {
            if (sees(sign)) at++;
            else fail();
        }

        /** Only the first fault counts. */
        private void fail() {
            if (fault < 0) fault = at;
        }
    }

    /** All that there is but THE IMAGE and THE TRACE. */
    private static final class Scene {
        final int[] numbers = AT_FIRST.clone();
        final int[] beds = new int[BEDS];
        final Kick[] boys = new Kick[BOYS_MOST];
        final int[] panes = new int[BOYS_MOST];
        int boyCount;
        final byte[] tape = new byte[TAPE_MOST];
        int tapeSize;
        final Yard yard = new Yard();
        int yardCount;
        final int[] taleBoys = new int[TALES_MOST];
        final int[] taleAims = new int[TALES_MOST];
        final int[] taleEnds = new int[TALES_MOST];
        int taleCount;

        void takeOver(Scene other) {
            System.arraycopy(other.numbers, 0, numbers, 0, numbers.length);
            System.arraycopy(other.beds, 0, beds, 0, beds.length);
            for (int i = 0; i < boys.length; i++) boys[i] = other.boys[i];
            System.arraycopy(other.panes, 0, panes, 0, panes.length);
            boyCount = other.boyCount;
            System.arraycopy(other.tape, 0, tape, 0, other.tapeSize);
            tapeSize = other.tapeSize;
            yard.takeOver(other.yard);
            yardCount = other.yardCount;
            System.arraycopy(other.taleBoys, 0, taleBoys, 0, other.taleCount);
            System.arraycopy(other.taleAims, 0, taleAims, 0, other.taleCount);
            System.arraycopy(other.taleEnds, 0, taleEnds, 0, other.taleCount);
            taleCount = other.taleCount;
        }

        /** The boy of that number; null if there is none. */
        Kick boyAt(int number) {
            return number >= 0 && number < boyCount ? boys[number] : null;
        }

        /** The number by which one comes to this one; the last comes ahead of the first. */
        int numberAhead(int number) {
            return number > 0 ? number - 1 : boyCount - 1;
        }

        int allPanes() {
            int sum = 0;
            for (int i = 0; i < boyCount; i++) sum += panes[i];
            return sum;
        }

        int heightOf(Kick b, int aim, int goal, int net) {
            return b.rise(aim, numbers[KEPT]) + yard.liftOf(b, aim, goal, net, numbers[HOUR]);
        }

        boolean goesOver(Kick b, int aim) {
            return heightOf(b, aim, numbers[GOAL], numbers[NET]) > yard.wall + numbers[NET];
        }

        int bedOf(Kick b, int aim) {
            return (aim + 2 * numbers[GOAL] + b.v + b.bend()) % BEDS;
        }

        int becomes(Kick b, int aim) {
            if (!goesOver(b, aim)) return WITHIN;
            int ground = beds[bedOf(b, aim)];
            if (ground == PANE) return ON_PANE;
            if (ground == ROOF) return IS_LODGED;
            return throwsBack(numbers[OVERS] + 1, numbers[BACK]) ? THROWN_BACK : IS_KEPT;
        }

        /** Whether she throws back the ball that is the day's overs-th. */
        boolean throwsBack(int overs, int back) {
            return overs <= back && numbers[HOUR] != yard.supper;
        }

        /** A kick with a ball that is there. */
        int play(Kick b, int aim) {
            int end = becomes(b, aim);
            if (end == WITHIN) return end;
            numbers[OVERS]++;
            if (beds[bedOf(b, aim)] == DAHLIAS) numbers[CRUSHED]++;
            if (end == ON_PANE) panes[b.number]++;
            if (end != THROWN_BACK) {
                numbers[BALLS]--;
                numbers[end == IS_LODGED ? LODGED : KEPT]++;
            }
            return end;
        }

        void sleep() {
            numbers[DAY]++;
            numbers[OVERS] = 0;
            numbers[HOUR] = HOUR_OF_A_NEW_DAY;
            if (numbers[DAY] % DAYS_OF_A_WEEK == 0) {
                numbers[BALLS] += numbers[KEPT];
                numbers[KEPT] = 0;
            }
        }

        int oversOfAll(int goal, int net) {
            int overs = 0;
            for (int i = 0; i < boyCount; i++) {
                Kick b = boyAt(i);
                for (int aim = 0; b != null && aim < AIMS; aim++) {
                    if (heightOf(b, aim, goal, net) > yard.wall + net) overs++;
                }
            }
            return overs;
        }

        int oversByAim(int aim) {
            int overs = 0;
            for (int i = 0; i < boyCount; i++) {
                Kick b = boyAt(i);
                if (b != null && goesOver(b, aim)) overs++;
            }
            return overs;
        }

        int kicksOnto(Kick b, int bed) {
            int kicks = 0;
            for (int aim = 0; aim < AIMS; aim++) {
                if (bedOf(b, aim) == bed && goesOver(b, aim)) kicks++;
            }
            return kicks;
        }

        int kicksOfAllOnto(int bed) {
            int kicks = 0;
            for (int i = 0; i < boyCount; i++) {
                Kick b = boyAt(i);
                if (b != null) kicks += kicksOnto(b, bed);
            }
            return kicks;
        }
    }

    /**
     * What so many kicks do by chances: in how many of all ways to aim them
     * so many more are kept, lodged and over than at first.
     */
    private static final class Chances {
        static final int BALLS_THEN = 0, KEPT_THEN = 1, LODGED_THEN = 2, OVERS_THEN = 3;

        // A cell for each kept, lodged and over with kept and lodged, together, at most over.
        final long[] cells = new long[455];
        // The yard's lifts don't depend on what is kept, so that each is worked out once a run.
        final int[] lifts = new int[BOYS_MOST * AIMS];
        long ways;
        private int kicksDone;

        // The aims of the kick at hand, by what becomes of it.
        private int aimsWithin;
        private int aimsOnGround;
        private int aimsOnPanes;
        private int aimsOnRoofs;

        private static int cellOf(int kept, int lodged, int over) {
            int gone = kept + lodged;
            return over * (over + 1) * (over + 2) / 6 + gone * (gone + 1) / 2 + lodged;
        }

        void run(Scene scene, int n, int back) {
            Arrays.fill(cells, 0L);
            cells[0] = 1;
            ways = 1;
            kicksDone = 0;
            if (scene.boyCount <= 0) return;
            findLifts(scene);
            for (int k = 0; k < n && k < KICKS_MOST; k++) {
                Kick b = scene.boyAt(k % scene.boyCount);
                if (b == null) return;
                spread(scene, b, back);
                ways *= AIMS;
                kicksDone++;
            }
        }

        private void findLifts(Scene scene) {
            int[] numbers = scene.numbers;
            for (int i = 0; i < scene.boyCount; i++) {
                Kick b = scene.boyAt(i);
                for (int aim = 0; b != null && aim < AIMS; aim++) {
                    lifts[i * AIMS + aim] = scene.yard.liftOf(b, aim, numbers[GOAL], numbers[NET], numbers[HOUR]);
                }
            }
        }

        /** One kick more. A way leads only to more over, or to itself: from the most on, one row will do. */
        private void spread(Scene scene, Kick b, int back) {
            for (int kept = kicksDone; kept >= 0; kept--) {
                sortAims(scene, b, kept);
                for (int over = kicksDone; over >= kept; over--) {
                    boolean thrown = scene.throwsBack(scene.numbers[OVERS] + over + 1, back);
                    for (int lodged = 0; lodged <= over - kept; lodged++) {
                        boolean ball = scene.numbers[BALLS] > kept + lodged;
                        move(kept, lodged, over, ball, thrown);
                    }
                }
            }
        }

        private void sortAims(Scene scene, Kick b, int kept) {
            aimsWithin = 0;
            aimsOnGround = 0;
            aimsOnPanes = 0;
            aimsOnRoofs = 0;
            int top = scene.yard.wall + scene.numbers[NET];
            for (int aim = 0; aim < AIMS; aim++) {
                int height = b.rise(aim, scene.numbers[KEPT] + kept) + lifts[b.number * AIMS + aim];
                int ground = scene.beds[scene.bedOf(b, aim)];
                if (height <= top) aimsWithin++;
                else if (ground == PANE) aimsOnPanes++;
                else if (ground == ROOF) aimsOnRoofs++;
                else aimsOnGround++;
            }
        }

        private void move(int kept, int lodged, int over, boolean ball, boolean thrown) {
            int from = cellOf(kept, lodged, over);
            long had = cells[from];
            if (had == 0) return;
            if (!ball) {
                cells[from] = had * AIMS;
                return;
            }
            cells[from] = had * aimsWithin;
            cells[cellOf(kept, lodged + 1, over + 1)] += had * aimsOnRoofs;
            cells[cellOf(kept + 1, lodged, over + 1)] += had * aimsOnPanes;
            int ground = thrown ? cellOf(kept, lodged, over + 1) : cellOf(kept + 1, lodged, over + 1);
            cells[ground] += had * aimsOnGround;
        }

        /** The sum, over all ways, of what there is then; by the ways it is the mean. */
        long sumOf(Scene scene, int what) {
            long sum = 0;
            for (int over = 0; over <= kicksDone; over++) {
                for (int kept = 0; kept <= over; kept++) {
                    for (int lodged = 0; lodged <= over - kept; lodged++) {
                        sum += cells[cellOf(kept, lodged, over)] * valueOf(scene.numbers, what, kept, lodged, over);
                    }
                }
            }
            return sum;
        }

        private static long valueOf(int[] numbers, int what, int kept, int lodged, int over) {
            switch (what) {
                case BALLS_THEN: return numbers[BALLS] - kept - lodged;
                case KEPT_THEN: return numbers[KEPT] + kept;
                case LODGED_THEN: return numbers[LODGED] + lodged;
                default: return numbers[OVERS] + over;
            }
        }
    }
}
