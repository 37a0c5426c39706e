import java.lang.reflect.Method;
import java.lang.reflect.Modifier;
import java.nio.file.Files;
import java.nio.file.Path;
import java.util.HashMap;
import java.util.Map;
import java.util.regex.Matcher;
import java.util.regex.Pattern;

/** README.md held against the class: its example, a row for each call, the numbers of the findings. */
public final class ReadmeTest {
    private static final Pattern EXAMPLE = Pattern.compile("(?m)^pot\\.(\\w+)\\(([^)]*)\\); +// (-?\\d+): ");
    private static final Pattern ROW = Pattern.compile("(?m)^\\| `(\\w+)\\(([^)]*)\\)` \\|");
    private static final String[] FINDINGS = {"BEYOND", "FULL", "KIND", "NONE", "STATE", "MISSING", "SIZE"};

    public static void main(String[] args) throws Exception {
        Path source = Path.of(args.length > 0 ? args[0] : "src/main/java/StockPot.java").toAbsolutePath();
        String page = Files.readString(source.resolve("../../../../README.md").normalize());
        Map<String, Method> calls = calls();
        example(page, calls);
        rows(page, calls);
        findings(page);
        Due.end("ReadmeTest");
    }

    private static Map<String, Method> calls() {
        Map<String, Method> calls = new HashMap<>();
        for (Method m : StockPot.class.getDeclaredMethods()) {
            if (Modifier.isPublic(m.getModifiers())) {
                calls.put(m.getName(), m);
            }
        }
        return calls;
    }

    private static String[] listed(String arguments) {
        return arguments.isEmpty() ? new String[0] : arguments.split(", ");
    }

    private static void example(String page, Map<String, Method> calls) throws Exception {
        StockPot pot = new StockPot();
        int lines = 0;
        Matcher m = EXAMPLE.matcher(page);
        while (m.find()) {
            lines++;
            String[] given = listed(m.group(2));
            Object[] boxed = new Object[given.length];
            for (int i = 0; i < given.length; i++) {
                boxed[i] = Integer.decode(given[i]);
            }
            long got = ((Number) calls.get(m.group(1)).invoke(pot, boxed)).longValue();
            Due.is("README: " + m.group(1) + "(" + m.group(2) + ")", got, Long.parseLong(m.group(3)));
        }
        Due.is("README: some lines of an example", lines > 0 ? 1 : 0, 1);
    }

    private static void rows(String page, Map<String, Method> calls) {
        Map<String, Integer> told = new HashMap<>();
        Matcher m = ROW.matcher(page);
        while (m.find()) {
            told.put(m.group(1), listed(m.group(2)).length);
        }
        for (String name : calls.keySet()) {
            Due.is("README: what " + name + " is given", told.getOrDefault(name, -1), calls.get(name).getParameterCount());
        }
        Due.is("README: rows of calls", told.size(), calls.size());
    }

    private static void findings(String page) {
        for (int which = 0; which < FINDINGS.length; which++) {
            String row = "| " + FINDINGS[which] + " | " + (Due.BEYOND - which) + " | " + which + " |";
            Due.is("README: " + row, page.contains(row) ? 1 : 0, 1);
        }
    }
}
