import java.util.function.IntToLongFunction;

/** What the tests share: answers held against those that are due, and texts laid on the tape. */
final class Due {
    static final long BEYOND = -1000000001L;
    static final long FULL = -1000000002L;
    static final long KIND = -1000000003L;
    static final long NONE = -1000000004L;
    static final long STATE = -1000000005L;
    static final long MISSING = -1000000006L;
    static final long SIZE = -1000000007L;
    static final int[] WILD = {-1, Integer.MIN_VALUE, Integer.MAX_VALUE};

    private static int asked = 0;
    private static int wrong = 0;
    private static String sentence = "";

    private Due() { }

    /** The words of the document that the rows behind it hold to; a wrong row is told with them. */
    static void sentence(String words) {
        sentence = words.isEmpty() ? "" : "[" + words + "] ";
    }

    static void is(String call, long got, long want) {
        asked++;
        if (got != want) {
            wrong++;
            System.out.println(sentence + call + " answered " + got + ", due is " + want);
        }
    }

    static boolean isFinding(long answer) {
        return answer < -1000000000L;
    }

    /** No finding at the least and the greatest, BEYOND beside them and far off; answer makes its own object. */
    static void range(String call, int least, int most, IntToLongFunction answer) {
        for (int v : new int[] {least, most}) {
            is(call + " " + v + " is a finding", isFinding(answer.applyAsLong(v)) ? 1 : 0, 0);
        }
        for (int v : new int[] {least - 1, most + 1, Integer.MIN_VALUE, Integer.MAX_VALUE}) {
            is(call + " " + v, answer.applyAsLong(v), BEYOND);
        }
    }

    static void end(String test) {
        System.out.println(test + ": " + asked + " asked, " + wrong + " wrong");
        if (wrong != 0 || asked == 0) {
            System.exit(1);
        }
    }

    static void lay(StockPot x, String text) {
        for (int i = 0; i < text.length(); i++) {
            x.feed(text.charAt(i), 1);
        }
    }

    static int college(StockPot x, String text) {
        lay(x, text);
        return x.college();
    }

    static StockPot empty() {
        return potOf(0);
    }

    /** A pot with so many of one part alone. */
    static StockPot potWith(int part, int v) {
        StockPot x = empty();
        x.pour(part, v);
        return x;
    }

    static int addCook(StockPot x, int kind, int part, int weight, int merit) {
        int cook = x.cook(kind);
        x.set(cook, 1, part);
        x.set(cook, 2, weight);
        x.set(cook, 3, merit);
        return cook;
    }

    static StockPot withCooks(StockPot x, int many) {
        for (int n = 0; n < many; n++) {
            x.cook(0);
        }
        return x;
    }

    /** Years without cooks leave the pot as it is, so cooks are to come behind this. */
    static StockPot inYear(StockPot x, int year) {
        for (int left = year; left > 0; left -= 100) {
            x.years(Math.min(left, 100));
        }
        return x;
    }

    static StockPot potOf(int... amounts) {
        StockPot x = new StockPot();
        x.pour(0, 0);
        for (int part = 0; part < amounts.length; part++) {
            x.pour(part, amounts[part]);
        }
        return x;
    }

    static void amounts(String call, StockPot x, int... wanted) {
        for (int part = 0; part < 12; part++) {
            is(call + ", grains(" + part + ")", x.grains(part), part < wanted.length ? wanted[part] : 0);
        }
    }
}
