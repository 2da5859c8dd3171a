import java.nio.file.Files;
import java.nio.file.Path;
import java.util.regex.Matcher;
import java.util.regex.Pattern;

/** What README.md shows: its example answers what is written behind each call, and it names every call of the face. */
public final class ReadmeTest {
    private static final Pattern SHOWN = Pattern.compile("x\\.(\\w+)\\(([^)]*)\\);\\s+// (-?\\d+)");

    public static void main(String[] args) throws Exception {
        String readme = Files.readString(Path.of(args.length > 0 ? args[0] : ".", "README.md"));
        example(readme);
        everyCallIsNamed(readme);
        testsAreTold(readme);
        Check.end();
    }

    private static void example(String readme) {
        BeamClocks x = new BeamClocks();
        Matcher shown = SHOWN.matcher(readme);
        int calls = 0;
        while (shown.find()) {
            calls++;
            String[] parts = shown.group(2).isEmpty() ? new String[0] : shown.group(2).split(",\\s*");
            int[] numbers = new int[5];
            for (int i = 0; i < parts.length; i++) {
                numbers[i] = Integer.decode(parts[i]);
            }
            Check.same("README: " + shown.group(), answer(x, shown.group(1), numbers), Integer.parseInt(shown.group(3)));
        }
        Check.yes("README shows calls with their answers", calls >= 8);
    }

    private static int answer(BeamClocks x, String call, int[] n) {
        switch (call) {
            case "feed": return x.feed(n[0], n[1], n[2], n[3], n[4]);
            case "text": return x.text(n[0]);
            case "steps": return x.steps(n[0]);
            case "look": return x.look(n[0], n[1]);
            case "stroke": return x.stroke(n[0], n[1]);
            case "apart": return x.apart(n[0], n[1]);
            case "run": return x.run(n[0], n[1], n[2]);
            case "own": return x.own(n[0], n[1]);
            case "due": return x.due(n[0], n[1]);
            case "keep": return x.keep();
            case "back": return x.back();
            case "count": return x.count(n[0]);
            default: return Integer.MIN_VALUE;
        }
    }

    private static void everyCallIsNamed(String readme) {
        for (java.lang.reflect.Method m : BeamClocks.class.getDeclaredMethods()) {
            if (java.lang.reflect.Modifier.isPublic(m.getModifiers())) {
                Check.yes("README names " + m.getName(), readme.contains("`" + m.getName() + "`"));
            }
        }
    }

    private static void testsAreTold(String readme) {
        Check.yes("README says how the tests are run", readme.contains(".ci/run"));
    }
}
