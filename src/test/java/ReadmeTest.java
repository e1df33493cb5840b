import java.lang.reflect.Method;
import java.nio.file.Files;
import java.nio.file.Path;
import java.util.regex.Matcher;
import java.util.regex.Pattern;

/** The calls that README.md shows answer what it says there; it names every test. */
public final class ReadmeTest {
    private static final Pattern FED = Pattern.compile("feed\\(x, \"(.*)\"\\);");
    private static final Pattern CALL = Pattern.compile("x\\.(\\w+)\\(([^)]*)\\);\\s*// (-?\\d+)(: .*)?");
    private static final Due DUE = new Due("ReadmeTest");

    public static void main(String[] args) throws Exception {
        String readme = Files.readString(Path.of("README.md"));
        DUE.is("calls shown", shown(readme), 30);
        DUE.is(".ci/run is told", readme.contains("\n.ci/run\n"), true);
        for (String file : new java.io.File("src/test/java").list()) {
            String name = file.replace(".java", "");
            DUE.is(name + " is told", !name.endsWith("Test") || readme.contains("| " + name + " |"), true);
        }
        DUE.end();
    }

    /** Makes the calls of the block that begins with a new object; how many answers were looked at. */
    private static int shown(String readme) throws Exception {
        int begin = readme.indexOf("RulerWord x = new RulerWord();");
        String[] lines = readme.substring(begin, readme.indexOf("```", begin)).split("\n");
        RulerWord x = new RulerWord();
        int calls = 0;
        for (String line : lines) {
            Matcher fed = FED.matcher(line);
            Matcher call = CALL.matcher(line);
            if (fed.matches()) {
                Due.feed(x, fed.group(1));
            } else if (call.matches()) {
                calls++;
                DUE.is(line, answer(x, call.group(1), call.group(2)), Long.parseLong(call.group(3)));
            } else {
                DUE.is("'" + line + "' is no call", line.startsWith("x."), false);
            }
            quotedIsShown(x, line);
        }
        return calls;
    }

    /** A text that stands in quotes behind shown() is what is shown. */
    private static void quotedIsShown(RulerWord x, String line) {
        int quote = line.indexOf("of \"");
        if (quote >= 0) {
            DUE.is(line, Due.shown(x, 0), line.substring(quote + 4, line.lastIndexOf('"')));
        }
    }

    private static long answer(RulerWord x, String name, String row) throws Exception {
        String[] told = row.isEmpty() ? new String[0] : row.split(", ");
        for (Method method : RulerWord.class.getMethods()) {
            if (method.getName().equals(name) && method.getParameterCount() == told.length) {
                Object[] values = new Object[told.length];
                for (int k = 0; k < told.length; k++) {
                    boolean isLong = method.getParameterTypes()[k] == long.class;
                    values[k] = isLong ? (Object) Long.valueOf(told[k]) : (Object) Integer.valueOf(told[k]);
                }
                return ((Number) method.invoke(x, values)).longValue();
            }
        }
        throw new IllegalArgumentException("no such call: " + name);
    }
}
