/** What the tests share: answers held against those that are due, and texts laid on the tape. */
final class Due {
    static final long BEYOND = -1000000001L;
    static final long FULL = -1000000002L;
    static final long KIND = -1000000003L;
    static final long NONE = -1000000004L;
    static final long STATE = -1000000005L;
    static final long MISSING = -1000000006L;
    static final long SIZE = -1000000007L;
    static final int[] WILD = {-1, Integer.MIN_VALUE, Integer.MAX_VALUE};

    private static int asked = 0;
    private static int wrong = 0;

    private Due() { }

    static void is(String call, long got, long want) {
        asked++;
        if (got != want) {
            wrong++;
            System.out.println(call + " answered " + got + ", due is " + want);
        }
    }

    static void end(String test) {
        System.out.println(test + ": " + asked + " asked, " + wrong + " wrong");
        if (wrong != 0 || asked == 0) {
            System.exit(1);
        }
    }

    static void lay(StockPot x, String text) {
        for (int i = 0; i < text.length(); i++) {
            x.feed(text.charAt(i), 1);
        }
    }

    static int college(StockPot x, String text) {
        lay(x, text);
        return x.college();
    }

    static StockPot potOf(int... amounts) {
        StockPot x = new StockPot();
        x.pour(0, 0);
        for (int part = 0; part < amounts.length; part++) {
            x.pour(part, amounts[part]);
        }
        return x;
    }

    static void amounts(String call, StockPot x, int... wanted) {
        for (int part = 0; part < 12; part++) {
            is(call + ", grains(" + part + ")", x.grains(part), part < wanted.length ? wanted[part] : 0);
        }
    }
}
