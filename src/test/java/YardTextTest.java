import java.util.ArrayList;
import java.util.LinkedHashSet;
import java.util.List;
import java.util.Random;
import java.util.Set;

/**
 * Promise 3, the FAULT of a tape: by hand, and against a slow reader of another make,
 * which keeps every way in which the grammar's rules can go on behind what was read.
 */
public final class YardTextTest {
    public static void main(String[] args) {
        byHand();
        limits();
        behindTheTape();
        againstTheRules();
        Check.end();
    }

    private static void fault(String text, int place) {
        Check.due("'" + text + "'", Check.yardOf(new OverFence(), text), place < 0 ? 0 : -10 - place);
    }

    private static void byHand() {
        fault("", 0);
        fault(" ", 0);
        fault("x", 0);
        fault(";", 0);
        fault("l", 1);
        fault("life", 3);
        fault("lift", 4);
        fault("lift  1 a=1", 5);
        fault("lift 1", 6);
        fault("lift 1;", 6);
        fault("lift 1 ", 7);
        fault("lift 1  a=1", 7);
        fault("lift 05 a=1", 6);
        fault("lift 00 a=1", 6);
        fault("lift 123 a=1", 7);
        fault("lift -1 a=1", 5);
        fault("lift 99 a=1", -1);
        fault("lift 0 a=0", -1);
        fault("lift 1 a", 8);
        fault("lift 1 a=", 9);
        fault("lift 1 a==1", 9);
        fault("lift 1 a=1 ", 10);
        fault("lift 1 a=01", 10);
        fault("lift 1 a=123", 11);
        fault("lift 1 a=12", -1);
        fault("lift 1 c=1", 7);
        fault("lift 1 a!1", 8);
        fault("lift 1 a=1&", 11);
        fault("lift 1 a=1|", 11);
        fault("lift 1 a=1&&b=1", 11);
        fault("lift 1 a=1&b<2|k>3&g=0|n=20|h<23", -1);
        fault("lift 1 ()", 8);
        fault("lift 1 (a=1", 11);
        fault("lift 1 (a=1)", -1);
        fault("lift 1 (a=1))", 12);
        fault("lift 1 a=1)", 10);
        fault("lift 1 !(!a=1|(b=2&!k=3))", -1);
        fault("lift 1 (a=1;wall 3)", 11);
        fault("duc 1 a=1", 3);
        fault("duck 1 a=1;duck 2 b=1", -1);
        fault("wall 1 a=1", 6);
        fault("wall 1;", 7);
        fault("wall 1; wall 2", 7);
        fault("wall 1;;wall 2", 7);
        fault("supper 18 ", 9);
        fault("supper", 6);
        fault("supper99", 6);
        fault("Wall 1", 0);
        fault("wall 1\n", 6);
    }

    private static void limits() {
        String ten = "wall 1;wall 2;wall 3;wall 4;wall 5;wall 6;wall 7;wall 8;wall 9;wall 10";
        fault(ten, -1);
        fault(ten + ";", ten.length());
        fault(ten + ";wall 11", ten.length());
        fault("lift 1 !!!!!a=1", -1);
        fault("lift 1 !!!!!!a=1", 12);
        fault("lift 1 (((((a=1)))))", -1);
        fault("lift 1 ((((((a=1))))))", 12);
        fault("lift 1 (!(!(a=1))&!b=1)", -1);
        fault("lift 1 !(!(!a=1&!b=1))", -1);
        fault("lift 1 !(!(!!a=1&!!b=1))", 12);
        fault("lift 1 !!!!!a=1&!!!!!a=2|(((((a=3)))))", -1);
        fault("lift 1 (!!!!a=1|(((((a=3)))))", 20);
        String hundred = "lift 1 a=1";
        while (hundred.length() < 96) hundred += "&a=1";
        hundred += hundred.length() == 99 ? "0" : "";
        Check.holds("a yard near a whole tape", hundred.length() > 95 && hundred.length() <= 100);
        fault(hundred, -1);
    }

    /** What stood on the tape once doesn't count. */
    private static void behindTheTape() {
        String whole = "lift 12 !(a=34&b=1);wall 3;duck 5 n>10";
        OverFence x = new OverFence();
        for (int size = 0; size < whole.length(); size++) {
            String text = whole.substring(0, size);
            Check.due("the whole", Check.yardOf(x, whole), 0);
            Check.due("'" + text + "' again", Check.yardOf(x, text), Check.yardOf(new OverFence(), text) < 0
                ? -10 - faultByTheRules(text) : 1);
            x = new OverFence();
        }
    }

    private static void againstTheRules() {
        Random random = new Random(7);
        int right = 0;
        for (int i = 0; i < 4000; i++) {
            String text = someText(random, 40);
            if (random.nextInt(3) > 0) text = spoilt(text, random);
            if (text.length() > 100) text = text.substring(0, 100);
            int place = faultByTheRules(text);
            if (place < 0) right++;
            fault(text, place);
        }
        Check.holds("many texts are yards: " + right, right > 300);
    }

    // ---- texts, made by the rules and spoilt

    static String someText(Random random, int aboutSize) {
        StringBuilder text = new StringBuilder();
        do {
            if (text.length() > 0) text.append(';');
            clause(text, random);
        } while (text.length() < aboutSize && random.nextInt(5) > 0);
        return text.toString();
    }

    private static void clause(StringBuilder text, Random random) {
        int word = random.nextInt(10);
        if (word == 0) {
            text.append("wall ").append(random.nextInt(12));
        } else if (word == 1) {
            text.append("supper ").append(14 + random.nextInt(6));
        } else {
            text.append(word < 6 ? "lift " : "duck ").append(random.nextInt(12)).append(' ');
            either(text, random, 0);
        }
    }

    private static void either(StringBuilder text, Random random, int depth) {
        factor(text, random, depth);
        while (random.nextInt(3) == 0) {
            text.append(random.nextBoolean() ? '&' : '|');
            factor(text, random, depth);
        }
    }

    private static void factor(StringBuilder text, Random random, int depth) {
        int kind = depth > 6 ? 9 : random.nextInt(10);
        if (kind < 3) {
            text.append('!');
            factor(text, random, depth + 1);
        } else if (kind < 5) {
            text.append('(');
            either(text, random, depth + 1);
            text.append(')');
        } else {
            int letter = random.nextInt(6);
            int[] most = {5, 7, 10, 4, 21, 24};
            text.append("bkagnh".charAt(letter)).append("<=>".charAt(random.nextInt(3)));
            text.append(random.nextInt(20) == 0 ? random.nextInt(100) : random.nextInt(most[letter]));
        }
    }

    private static String spoilt(String text, Random random) {
        StringBuilder other = new StringBuilder(text);
        int at = random.nextInt(other.length());
        String signs = "lift duckwallsupper 0123456789bkagnh<=>!()&|;x";
        char sign = signs.charAt(random.nextInt(signs.length()));
        int way = random.nextInt(4);
        if (way == 0) other.setLength(at);
        else if (way == 1) other.setCharAt(at, sign);
        else if (way == 2) other.insert(at, sign);
        else other.deleteCharAt(at);
        return other.toString();
    }

    // ---- the slow reader: sets of what may still come, as lists of names of rules and of "'" with signs, one of which comes

    static int faultByTheRules(String text) {
        Set<List<String>> ways = new LinkedHashSet<>();
        ways.add(List.of("Y10"));
        for (int i = 0; i < text.length(); i++) {
            Set<List<String>> next = new LinkedHashSet<>();
            for (List<String> way : opened(ways)) {
                if (!way.isEmpty() && way.get(0).indexOf(text.charAt(i), 1) > 0) next.add(way.subList(1, way.size()));
            }
            if (next.isEmpty()) return i;
            ways = next;
        }
        return opened(ways).contains(List.<String>of()) ? -1 : text.length();
    }

    private static Set<List<String>> opened(Set<List<String>> ways) {
        Set<List<String>> all = new LinkedHashSet<>();
        List<List<String>> open = new ArrayList<>(ways);
        while (!open.isEmpty()) {
            List<String> way = open.remove(open.size() - 1);
            if (way.isEmpty() || way.get(0).charAt(0) == '\'') {
                all.add(way);
                continue;
            }
            for (List<String> choice : choices(way.get(0))) {
                List<String> longer = new ArrayList<>(choice);
                longer.addAll(way.subList(1, way.size()));
                open.add(longer);
            }
        }
        return all;
    }

    private static List<List<String>> choices(String rule) {
        List<List<String>> all = new ArrayList<>();
        int n = rule.length() > 1 ? Integer.parseInt(rule.substring(1)) : 0;
        switch (rule.charAt(0)) {
            case 'Y':
                all.add(List.of("C"));
                if (n > 1) all.add(List.of("C", "';", "Y" + (n - 1)));
                break;
            case 'C':
                all.add(spelt("lift ", "N", "' ", "E0"));
                all.add(spelt("duck ", "N", "' ", "E0"));
                all.add(spelt("wall ", "N"));
                all.add(spelt("supper ", "N"));
                break;
            case 'E':
                all.add(List.of("T" + n));
                all.add(List.of("T" + n, "'|", "E" + n));
                break;
            case 'T':
                all.add(List.of("F" + n));
                all.add(List.of("F" + n, "'&", "T" + n));
                break;
            case 'F':
                if (n < 5) all.add(List.of("'!", "F" + (n + 1)));
                if (n < 5) all.add(List.of("'(", "E" + (n + 1), "')"));
                all.add(List.of("'bkagnh", "'<=>", "N"));
                break;
            default:
                all.add(List.of("'0123456789"));
                all.add(List.of("'123456789", "'0123456789"));
                break;
        }
        return all;
    }

    private static List<String> spelt(String word, String... behind) {
        List<String> all = new ArrayList<>();
        for (char c : word.toCharArray()) all.add("'" + c);
        all.addAll(List.of(behind));
        return all;
    }
}
