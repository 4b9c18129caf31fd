import java.io.IOException;
import java.lang.reflect.InvocationTargetException;
import java.lang.reflect.Method;
import java.lang.reflect.Modifier;
import java.nio.file.Files;
import java.nio.file.Path;
import java.util.regex.Matcher;
import java.util.regex.Pattern;
import java.util.stream.Stream;

/** What README.md says of calls and answers, against the class itself. */
public final class ReadmeTest {
    private static final Pattern TOLD = Pattern.compile("x\\.(\\w+)\\(([^)]*)\\); +// (-?\\d+)(:.*)?");
    private static final Pattern REFUSAL = Pattern.compile("\\| (\\d) \\|[^|]*\\| `(\\w+)\\(([^)]*)\\)`[^|]*\\|");
    private static final int MOST_CALLS = 512;

    private static String text;
    private static int used;

    public static void main(String[] args) throws IOException, ReflectiveOperationException {
        text = Files.readString(Path.of("README.md"));
        Due.by("An object is used for at most 512 calls after it has been made");
        Due.is("calls in the run, some", told() > 20 ? 1 : 0, 1);
        theRun();
        refusals();
        minusOne();
        neverRefused();
        allNamed();
        Due.end("what README.md tells is so");
    }

    private static int told() {
        int n = 0;
        for (Matcher m = TOLD.matcher(run()); m.find(); ) n++;
        return n;
    }

    private static String run() {
        int from = text.indexOf("```java");
        return text.substring(from, text.indexOf("```", from + 7));
    }

    /** A new object behind the run of README.md; each line of it but the first one tells an answer. */
    private static HerbKey theRun() throws ReflectiveOperationException {
        HerbKey x = new HerbKey();
        used = 0;
        for (String line : run().split("\n")) {
            if (line.isBlank() || line.startsWith("```") || line.equals("HerbKey x = new HerbKey();")) continue;
            Matcher m = TOLD.matcher(line);
            Due.is("a call with its answer: " + line, m.matches() ? 1 : 0, 1);
            if (!m.matches()) continue;
            Due.is("README.md: " + line, call(x, m.group(1), m.group(2)), Long.parseLong(m.group(3)));
            Due.is("README.md: status behind " + line, x.status(), 0);
            used += 2;
        }
        Due.is("calls in the run, few enough", used < MOST_CALLS ? 1 : 0, 1);
        return x;
    }

    private static void refusals() throws ReflectiveOperationException {
        int rows = 0;
        for (Matcher m = REFUSAL.matcher(text); m.find(); rows++) {
            HerbKey x = theRun();
            int why = Integer.parseInt(m.group(1));
            Due.is("README.md: refusals in their order", why, rows + 1);
            // One sheet stands, 39 more can be made.
            for (int i = 1; why == 8 && i < 40; i++) Due.well("a sheet", x, call(x, m.group(2), m.group(3)), i);
            long before = x.digest();
            int changes = x.changes();
            Due.refused("README.md: " + m.group(2), x, call(x, m.group(2), m.group(3)), why);
            Due.is("README.md: " + m.group(2) + " changes nothing", x.digest(), before);
            Due.is("README.md: " + m.group(2) + " is no change", x.changes(), changes);
        }
        Due.is("README.md: refusals", rows, 8);
    }

    /** -1 as an answer that is none of a refused call. */
    private static void minusOne() throws ReflectiveOperationException {
        HerbKey x = theRun();
        String told = text.substring(text.indexOf("-1 may also be"), text.indexOf("were not refused"));
        for (String name : "row state measure lead read proof sure score".split(" ")) {
            Due.is("README.md tells of " + name, told.contains("`" + name + "`") ? 1 : 0, 1);
        }
        Due.well("state", x, x.state(0, 0, -1), -1);
        Due.well("read", x, x.read(0, 0, 0), -1);
        Due.well("measure", x, x.measure(0, 0, -1, 0), -1);
        Due.well("lead", x, x.lead(0, 0, false, -1), -1);
        Due.well("sure", x, x.sure(0, 0), -1);
        Due.well("weigh", x, x.weigh(1, 0, 1), 1);
        Due.well("score", x, x.score(1, 0, 3), -1);
        Due.well("slack", x, x.slack(1, 1), 1);
        Due.well("names", x, x.names(1, -1), 1);
        Due.well("pick", x, x.pick(0), 1);
        Due.well("proof", x, x.proof(-2), -1);
        Due.well("row", x, x.row(0, 0, -1), -1);
    }

    private static void neverRefused() {
        HerbKey x = new HerbKey();
        Due.refused("lose", x, x.lose(0), 2);
        Due.is("changes", x.changes(), 0);
        x.digest();
        Due.is("status stays", x.status(), 2);
        Due.is("status stays", x.status(), 2);
    }

    /** Each call of the face and each test stands in README.md by its name. */
    private static void allNamed() throws IOException {
        int from = text.indexOf("All calls:");
        String calls = text.substring(from, text.indexOf("\n## ", from));
        for (Method method : HerbKey.class.getDeclaredMethods()) {
            if (!Modifier.isPublic(method.getModifiers())) continue;
            Due.is("README.md names " + method.getName(), calls.contains("`" + method.getName() + "`") ? 1 : 0, 1);
        }
        try (Stream<Path> tests = Files.list(Path.of("src/test/java"))) {
            for (Path test : tests.toList()) {
                String name = test.getFileName().toString().replace(".java", "");
                Due.is("README.md names " + name, text.contains("`" + name + "`") ? 1 : 0, 1);
            }
        }
    }

    private static long call(HerbKey x, String name, String list) throws ReflectiveOperationException {
        String[] words = list.isBlank() ? new String[0] : list.split(", *");
        for (Method method : HerbKey.class.getDeclaredMethods()) {
            if (!method.getName().equals(name) || method.getParameterCount() != words.length) continue;
            Object[] values = new Object[words.length];
            for (int i = 0; i < words.length; i++) values[i] = value(method.getParameterTypes()[i], words[i]);
            try {
                return ((Number) method.invoke(x, values)).longValue();
            } catch (InvocationTargetException e) {
                throw new IllegalStateException(name + " threw", e);
            }
        }
        throw new IllegalStateException("README.md tells of " + name + "(" + list + "), which is no call");
    }

    private static Object value(Class<?> type, String word) {
        if (type == boolean.class) return Boolean.valueOf(word);
        if (type == long.class) return Long.valueOf(word);
        return Integer.valueOf(word);
    }
}
