import java.lang.reflect.Method;
import java.lang.reflect.Modifier;
import java.nio.file.Files;
import java.nio.file.Path;
import java.util.Set;
import java.util.TreeSet;
import java.util.regex.Matcher;
import java.util.regex.Pattern;

/** README.md: the run of calls answers what stands behind each, and every call of the face is named. */
public final class ReadmeTest {
    private static final Pattern CALL = Pattern.compile("x\\.(\\w+\\([^)]*\\));\\s*// (-?\\d+).*");
    private static final Pattern TEXT = Pattern.compile("for \\(char c : \"(.*)\"\\.toCharArray\\(\\)\\) x\\.feed\\(c\\);");
    private static final Pattern SIGN = Pattern.compile("'(.)'");

    public static void main(String[] args) throws Exception {
        String readme = Files.readString(Path.of(System.getProperty("root", ".")).resolve("README.md"));
        run(readme.substring(readme.indexOf("```java\n") + 8).split("```")[0]);
        names(readme);
        Check.end();
    }

    private static void run(String lines) {
        OverFence x = null;
        int calls = 0;
        for (String line : lines.split("\n")) {
            Matcher call = CALL.matcher(line);
            Matcher text = TEXT.matcher(line);
            if (line.equals("OverFence x = new OverFence();")) {
                x = new OverFence();
            } else if (text.matches()) {
                Check.feed(x, text.group(1));
            } else if (call.matches()) {
                String plain = SIGN.matcher(call.group(1)).replaceAll(sign -> "" + (int) sign.group(1).charAt(0));
                Check.due(line, Calls.call(x, plain), Long.parseLong(call.group(2)));
                calls++;
            } else {
                Check.holds("can be read: " + line, false);
            }
        }
        Check.holds("calls were read: " + calls, calls > 10);
    }

    private static void names(String readme) {
        Set<String> missing = new TreeSet<>();
        for (Method m : OverFence.class.getDeclaredMethods()) {
            boolean open = Modifier.isPublic(m.getModifiers());
            if (open && !Pattern.compile("`" + m.getName() + "\\(").matcher(readme).find()) missing.add(m.getName());
        }
        Check.holds("each call is told of, but " + missing, missing.isEmpty());
    }
}
