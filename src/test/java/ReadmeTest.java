import java.nio.file.Files;
import java.nio.file.Path;
import java.util.Arrays;
import java.util.List;
import java.util.regex.Matcher;
import java.util.regex.Pattern;

/** The examples of README.md: each line is called, and answers what stands behind it. */
public final class ReadmeTest {
    private static final Pattern MADE = Pattern.compile("SpringIsle isle = new SpringIsle\\(\\);");
    private static final Pattern TOLD = Pattern.compile("tell\\(isle, \"([^\"]*)\"\\);\\s*// (\\S+?):?( .*)?");
    private static final Pattern CALLED = Pattern.compile("isle\\.(\\w+)\\(([-0-9, ]*)\\);\\s*// (\\S+?):?( .*)?");
    private static final int FEWEST_CALLS = 30;

    private static SpringIsle isle;
    private static int called = 0;
    private static int wrong = 0;

    public static void main(String[] args) throws Exception {
        boolean example = false;
        for (String line : Files.readAllLines(Path.of("README.md"))) {
            if (line.startsWith("```")) example = line.equals("```java");
            else if (example && !isOfTell(line)) run(line);
        }
        if (called < FEWEST_CALLS) fail("README.md", "has " + called + " calls alone");
        System.out.println(wrong == 0 ? called + " calls of README.md answer as it says" : wrong + " lines are wrong");
        if (wrong != 0) System.exit(1);
    }

    // The lines of the function tell() itself, which this test has for its own.
    private static boolean isOfTell(String line) {
        return line.isEmpty() || line.startsWith("static ") || line.startsWith("    ") || line.equals("}");
    }

    private static void run(String line) throws Exception {
        Matcher told = TOLD.matcher(line);
        Matcher call = CALLED.matcher(line);
        if (MADE.matcher(line).matches()) isle = new SpringIsle();
        else if (told.matches()) compare(line, tell(isle, told.group(1)), told.group(2));
        else if (call.matches()) compare(line, answer(call.group(1), call.group(2)), call.group(3));
        else fail(line, "is no call that this test knows");
    }

    private static int tell(SpringIsle isle, String text) {
        for (char c : text.toCharArray()) isle.feed(c);
        return isle.isle();
    }

    private static long answer(String name, String listed) throws Exception {
        List<String> texts = listed.isEmpty() ? List.of() : Arrays.asList(listed.split(", "));
        Class<?>[] types = new Class<?>[texts.size()];
        Arrays.fill(types, int.class);
        Object[] arguments = new Object[texts.size()];
        for (int i = 0; i < arguments.length; i++) arguments[i] = Integer.parseInt(texts.get(i));
        return ((Number) SpringIsle.class.getMethod(name, types).invoke(isle, arguments)).longValue();
    }

    private static void compare(String line, long got, String want) {
        called++;
        if (got != numberOf(want)) fail(line, "answered " + got);
    }

    private static long numberOf(String want) {
        switch (want) {
            case "NONE": return SpringIsle.NONE;
            case "BAD": return SpringIsle.BAD;
            case "STATE": return SpringIsle.STATE;
            case "FULL": return SpringIsle.FULL;
            default: return Long.parseLong(want);
        }
    }

    private static void fail(String line, String how) {
        wrong++;
        System.out.println(line + " .. " + how);
    }
}
