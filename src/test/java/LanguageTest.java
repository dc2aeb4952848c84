import java.lang.reflect.Constructor;
import java.lang.reflect.Field;
import java.lang.reflect.Method;
import java.lang.reflect.Modifier;
import java.nio.file.Files;
import java.nio.file.Path;
import java.util.Set;
import java.util.TreeSet;
import java.util.regex.Matcher;
import java.util.regex.Pattern;

/** The face of the class, and what ../shared/LANGUAGE.md rules out and a look at the source can show. */
public final class LanguageTest {
    private static final String[] FACE = {
        "int feed(int)", "int yard()", "int boy(int,int)", "int of(int,int)", "int bed(int,int)",
        "int set(int,int)", "int told(int)", "int height(int,int)", "int falls(int,int)", "int kick(int,int)",
        "int night()", "long odds(int,int,int)", "int turn(int)", "int need(int)", "int bar(int)",
        "long round(int,int,int)", "int rule(int)", "long owes(int,int,int)", "int who(int)", "int cover(int)",
        "int tale(int,int,int)", "int looked()", "int act(int,int,int)", "int trace(int)", "int as(int,int)",
        "int image()", "int undo()", "int count(int)"};

    public static void main(String[] args) throws Exception {
        face();
        constants();
        nested();
        source();
        Check.end();
    }

    private static String told(Method m) {
        StringBuilder text = new StringBuilder(m.getReturnType().toString()).append(' ').append(m.getName()).append('(');
        for (int i = 0; i < m.getParameterCount(); i++) text.append(i > 0 ? "," : "").append(m.getParameterTypes()[i]);
        return text.append(')').toString();
    }

    private static void face() {
        Set<String> due = new TreeSet<>(Set.of(FACE));
        Set<String> names = new TreeSet<>();
        Set<String> got = new TreeSet<>();
        for (Method m : OverFence.class.getDeclaredMethods()) {
            if (Modifier.isPublic(m.getModifiers())) {
                got.add(told(m));
                names.add(m.getName());
                Check.holds(m.getName() + " is no static one", !Modifier.isStatic(m.getModifiers()));
            }
        }
        Check.holds("the face: " + got, got.equals(due));
        for (Method m : OverFence.class.getDeclaredMethods()) {
            boolean open = Modifier.isPublic(m.getModifiers());
            Check.holds(m + " is public or private", open || Modifier.isPrivate(m.getModifiers()));
            Check.holds(m + " bears no public name", open || !names.contains(m.getName()));
        }
        for (Class<?> c : OverFence.class.getDeclaredClasses()) {
            for (Method m : c.getDeclaredMethods()) {
                Check.holds(m + " bears no public name", !names.contains(m.getName()));
                Check.holds(m + " takes at most seven", m.getParameterCount() <= 7);
            }
        }
        Constructor<?>[] made = OverFence.class.getDeclaredConstructors();
        Check.due("constructors", made.length, 1);
        Check.due("constructor's parameters", made[0].getParameterCount(), 0);
        Check.holds("public constructor", Modifier.isPublic(made[0].getModifiers()));
        Check.holds("final class", Modifier.isFinal(OverFence.class.getModifiers()));
    }

    private static void constants() {
        Check.due("NONE", OverFence.NONE, -1);
        Check.due("BAD", OverFence.BAD, -2);
        Check.due("STATE", OverFence.STATE, -3);
        Check.due("FULL", OverFence.FULL, -4);
        Check.due("NO", OverFence.NO, Long.MIN_VALUE);
        int open = 0;
        for (Field f : OverFence.class.getDeclaredFields()) {
            if (!Modifier.isPrivate(f.getModifiers())) open++;
            if (Modifier.isStatic(f.getModifiers())) Check.holds(f + " is final", Modifier.isFinal(f.getModifiers()));
        }
        Check.due("public constants", open, 5);
    }

    private static void nested() {
        Class<?>[] classes = OverFence.class.getDeclaredClasses();
        Check.holds("at most twelve classes", classes.length + 1 <= 12);
        for (Class<?> c : classes) {
            Check.holds(c + " is static", Modifier.isStatic(c.getModifiers()));
            int fields = 0;
            for (Field f : c.getDeclaredFields()) {
                if (!Modifier.isStatic(f.getModifiers())) fields++;
                else Check.holds(f + " is final", Modifier.isFinal(f.getModifiers()));
            }
            Check.holds(c + " has at most twenty fields", fields <= 20);
        }
    }

    private static void source() throws Exception {
        Path root = Path.of(System.getProperty("root", "."));
        String whole = Files.readString(root.resolve("src/main/java/OverFence.java"));
        for (int i = 0; i < whole.length(); i++) {
            if (whole.charAt(i) > 127) Check.holds("only plain signs, not at " + i, false);
        }
        String text = whole.replaceAll("(?s)/\\*.*?\\*/", "").replaceAll("//[^\n]*", "");
        for (String word : new String[] {"throw", "throws", "try", "catch", "finally", "synchronized", "assert",
            "volatile", "protected", "package", "native", "equals", "hashCode", "toString", "System.out",
            "Object", "Random", "double", "float"}) {
            Check.holds("no " + word, !Pattern.compile("\\b" + Pattern.quote(word) + "\\b").matcher(text).find());
        }
        Check.holds("no lambda", !text.contains("->"));
        Check.holds("no method reference", !text.contains("::"));
        Matcher imports = Pattern.compile("import ([^;]*);").matcher(text);
        while (imports.find()) Check.holds("imports " + imports.group(1), imports.group(1).equals("java.util.Arrays"));
        methodSizes(text);
    }

    private static void methodSizes(String text) {
        int start = -1;
        int depth = 0;
        String[] lines = text.split("\n");
        for (int i = 0; i < lines.length; i++) {
            boolean opens = lines[i].matches(" {4}(public|private).*\\) \\{|\\s{8}.*\\) \\{") && start < 0
                && !lines[i].trim().matches("(if|for|while|switch|\\}).*");
            if (opens) {
                start = i;
                depth = lines[i].length() - lines[i].stripLeading().length();
            }
            if (start >= 0 && lines[i].equals(" ".repeat(depth) + "}")) {
                Check.holds("short enough: " + lines[start].trim(), i - start < 60);
                start = -1;
            }
        }
        Check.holds("every method ends", start < 0);
    }
}
