import java.lang.reflect.Method;
import java.util.Arrays;
import java.util.Comparator;
import java.util.Random;

/** Long runs of calls, drawn by a fixed seed, answered by StockPot and by PlainPot alike. */
public final class ModelTest {
    private static final int RUNS = 60;
    // Of 512 calls, so that a last text and the last look at the pot stay within them.
    private static final int CALLS = 512 - 122 - 12;
    private static final int[] EDGES = {
        -2, -1, 0, 1, 2, 3, 4, 5, 6, 7, 8, 9, 10, 11, 12, 20, 21, 40, 41, 60, 61, 64, 99, 100, 101, 499, 500, 501,
        999, 1000, 1001, 9999, 10000, 99998, 99999, 100000, Integer.MAX_VALUE, Integer.MIN_VALUE,
    };
    private static final String[] WORDS = {
        "cook", "frugal", "grand", "watery", "statute", "blitz", "puts", "weight", "merit", "part", ";", " ", "0", "3",
        "9", "10", "11", "12", "99", "999", "1000", "9999", "10000", "x", "A", "-", "\n", "" + (char) 200,
    };

    private final Random drawn;
    private final Method[] calls;
    private final StockPot pot = new StockPot();
    private final PlainPot plain = new PlainPot();
    private final int run;
    private int asked = 0;

    private ModelTest(int run, Method[] calls) {
        this.run = run;
        this.calls = calls;
        drawn = new Random(run);
    }

    public static void main(String[] args) throws Exception {
        Method[] calls = Arrays.stream(StockPot.class.getDeclaredMethods())
            .filter(m -> java.lang.reflect.Modifier.isPublic(m.getModifiers()))
            .sorted(Comparator.comparing(Method::getName))
            .toArray(Method[]::new);
        for (int run = 0; run < RUNS; run++) {
            new ModelTest(run, calls).go();
        }
        Due.end("ModelTest");
    }

    /** Runs begin by turns as at first, close to the last year, with a full pot and with eight cooks. */
    private void start() {
        switch (run % 4) {
            case 1:
                for (int n = 0; n < 99; n++) {
                    both("years", pot.years(100), 100);
                }
                break;
            case 2:
                both("pour", pot.pour(0, 49999), 0, 49999);
                both("pour", pot.pour(7, 50000), 7, 50000);
                break;
            case 3:
                for (int n = 0; n < 8; n++) {
                    int kind = drawn.nextInt(6);
                    both("cook", pot.cook(kind), kind);
                }
                break;
            default:
                break;
        }
    }

    private void both(String name, long got, long... a) {
        asked++;
        Due.is("run " + run + ": " + name + Arrays.toString(a), got, plain.call(name, a));
    }

    private void go() throws Exception {
        start();
        while (asked < CALLS) {
            Method m = calls[drawn.nextInt(calls.length)];
            if (m.getName().equals("college") && drawn.nextInt(4) > 0) {
                layText(drawn.nextInt(3) == 0 ? strangeText() : fairText());
                ask(m, new long[0]);
            } else if (!m.getName().equals("tear") || drawn.nextInt(4) == 0) {
                ask(m, argumentsFor(m));
            }
        }
        for (int part = 0; part < 12; part++) {
            both("grains", pot.grains(part), part);
        }
    }

    private void ask(Method m, long[] a) throws Exception {
        Object[] boxed = new Object[a.length];
        for (int i = 0; i < a.length; i++) {
            if (m.getParameterTypes()[i] == long.class) {
                boxed[i] = a[i];
            } else {
                boxed[i] = (int) a[i];
            }
        }
        both(m.getName(), ((Number) m.invoke(pot, boxed)).longValue(), a);
    }

    /** Mostly what the call can take, now and then an edge or anything. */
    private long[] argumentsFor(Method m) {
        int[] most = mostFor(m.getName());
        long[] a = new long[m.getParameterCount()];
        for (int i = 0; i < a.length; i++) {
            int draw = drawn.nextInt(60);
            a[i] = draw == 0 ? drawn.nextInt() : draw < 3 ? EDGES[drawn.nextInt(EDGES.length)] : drawn.nextInt(most[i] + 1);
        }
        switch (m.getName()) {
            case "sheet":
                a[1] = drawn.nextInt(20) == 0 ? a[1] : new int[] {8, 16, 64, 64, 0}[drawn.nextInt(5)];
                break;
            case "write":
                a[2] = drawn.nextInt(4) == 0 ? drawn.nextLong() : a[2];
                break;
            case "pour":
                a[1] = drawn.nextInt(3) > 0 && a[1] > 0 ? a[1] % 1500 : a[1];
                break;
            case "feed":
                a[0] = drawn.nextInt();
                break;
            default:
                break;
        }
        return a;
    }

    private static int[] mostFor(String name) {
        return switch (name) {
            case "grains", "taste" -> new int[] {11};
            case "pour", "gone" -> new int[] {11, 99999};
            case "spoon" -> new int[] {999};
            case "spoonOf" -> new int[] {11, 999};
            case "cook" -> new int[] {5};
            case "of" -> new int[] {7, 6};
            case "set" -> new int[] {7, 3, 11};
            case "turn", "as" -> new int[] {5, 5};
            case "swap" -> new int[] {5, 5};
            case "years", "best" -> new int[] {100};
            case "now" -> new int[] {5};
            case "on" -> new int[] {11, 100, 1};
            case "strong" -> new int[] {11, 1000};
            case "better" -> new int[] {11, 60};
            case "weight" -> new int[] {5, 11, 20, 800};
            case "kind" -> new int[] {5, 11, 60};
            case "puts" -> new int[] {5, 60};
            case "dull" -> new int[] {60};
            case "feed" -> new int[] {0, 4};
            case "sheet" -> new int[] {3, 64, 40};
            case "write" -> new int[] {3, 20, 1000};
            case "copy" -> new int[] {3, 10, 3, 10, 10};
            case "lays" -> new int[] {3};
            case "book" -> new int[] {3, 11};
            case "read" -> new int[] {3, 11, 5};
            case "count" -> new int[] {3};
            case "status" -> new int[] {6};
            default -> new int[0];
        };
    }

    private void layText(String text) throws Exception {
        both("wipe", pot.wipe());
        for (int i = 0; i < text.length(); i++) {
            both("feed", pot.feed(text.charAt(i), 1), text.charAt(i), 1);
        }
    }

    private String strangeText() {
        StringBuilder text = new StringBuilder();
        for (int n = drawn.nextInt(12); n > 0; n--) {
            text.append(WORDS[drawn.nextInt(WORDS.length)]).append(drawn.nextInt(3) == 0 ? "" : " ");
        }
        return text.toString();
    }

    private String fairText() {
        StringBuilder text = new StringBuilder();
        for (int n = 1 + drawn.nextInt(3); n > 0; n--) {
            text.append(drawn.nextBoolean() ? "part " + drawn.nextInt(12) + " " + drawn.nextInt(10000) : cookItem());
            text.append(n > 1 ? ";" : "");
        }
        if (drawn.nextInt(5) == 0) {
            text.setCharAt(drawn.nextInt(text.length()), "z9; ".charAt(drawn.nextInt(4)));
        }
        return text.toString();
    }

    private String cookItem() {
        return WORDS[drawn.nextInt(6)]
            + (drawn.nextBoolean() ? " puts " + drawn.nextInt(12) : "")
            + (drawn.nextBoolean() ? " weight " + drawn.nextInt(1000) : "")
            + (drawn.nextBoolean() ? " merit " + drawn.nextInt(10) : "");
    }
}
