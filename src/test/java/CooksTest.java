/** Promises 7 to 12. */
public final class CooksTest {
    public static void main(String[] args) {
        cook();
        ofAtFirst();
        ofByKinds();
        ofByYears();
        ofSmallPot();
        set();
        turn();
        as();
        swap();
        Due.end("CooksTest");
    }

    private static StockPot oneOfEach() {
        StockPot x = new StockPot();
        for (int kind = 0; kind < 6; kind++) {
            x.cook(kind);
        }
        return x;
    }

    private static void cook() {
        StockPot x = new StockPot();
        Due.is("7 kind 6", x.cook(6), Due.BEYOND);
        for (int wild : Due.WILD) {
            Due.is("7 kind", x.cook(wild), Due.BEYOND);
        }
        for (int n = 0; n < 8; n++) {
            Due.is("7 number", x.cook(n % 6), n);
            Due.is("7 kind", x.of(n, 0), n % 6);
        }
        Due.is("7 a ninth", x.cook(0), Due.FULL);
        Due.is("7 BEYOND goes before FULL", x.cook(6), Due.BEYOND);
        Due.is("7 how many", x.count(0), 8);
    }

    private static void ofAtFirst() {
        StockPot x = new StockPot();
        Due.is("8 no cooks", x.of(0, 0), Due.BEYOND);
        x.cook(2);
        int[] wanted = {2, 1, 100, 5, 150, 170, 1};
        for (int what = 0; what < wanted.length; what++) {
            Due.is("8 of(0, " + what + ")", x.of(0, what), wanted[what]);
        }
        Due.is("8 what 7", x.of(0, 7), Due.BEYOND);
        Due.is("8 cook 1", x.of(1, 0), Due.BEYOND);
        for (int wild : Due.WILD) {
            Due.is("8 cook", x.of(wild, 0), Due.BEYOND);
            Due.is("8 what", x.of(0, wild), Due.BEYOND);
        }
        Due.amounts("8 nothing changes", x, 1000);
    }

    private static void ofByKinds() {
        StockPot x = oneOfEach();
        x.years(1);
        x.pour(0, 50000);
        int[] takes = {121, 60, 171, 121, 60, 342};
        int[] puts = {128, 67, 195, 121, 62, 212};
        int[] what = {9, 9, 9, 0, 9, 9};
        for (int kind = 0; kind < 6; kind++) {
            x.set(kind, 1, 9);
            x.set(kind, 2, 121);
            x.set(kind, 3, 7);
            Due.is("8 takes, kind " + kind, x.of(kind, 4), takes[kind]);
            Due.is("8 puts, kind " + kind, x.of(kind, 5), puts[kind]);
            Due.is("8 of what, kind " + kind, x.of(kind, 6), what[kind]);
        }
    }

    private static void ofByYears() {
        StockPot x = new StockPot();
        x.cook(4);
        x.set(0, 1, 8);
        x.set(0, 3, 6);
        for (int year = 0; year < 36; year++) {
            Due.is("8 statute takes, year " + year, x.of(0, 4), year % 7 == 0 ? 0 : 50);
            Due.is("8 statute puts, year " + year, x.of(0, 5), year % 7 == 0 ? 1 : 51);
            Due.is("8 statute of what, year " + year, x.of(0, 6), year % 5 == 0 ? 3 : 8);
            x.years(1);
        }
        x = new StockPot();
        x.cook(4);
        x.set(0, 3, 4);
        Due.is("8 statute puts 0 at least", x.of(0, 5), 0);
    }

    private static void ofSmallPot() {
        StockPot x = oneOfEach();
        x.years(1);
        for (int part = 0; part < 12; part++) {
            x.pour(part, 0);
        }
        x.pour(7, 60);
        int[] takes = {60, 50, 60, 60, 50, 60};
        int[] puts = {65, 55, 71, 60, 50, 41};
        for (int kind = 0; kind < 6; kind++) {
            Due.is("8 small pot takes, kind " + kind, x.of(kind, 4), takes[kind]);
            Due.is("8 small pot puts, kind " + kind, x.of(kind, 5), puts[kind]);
        }
        x.set(5, 3, 0);
        x.pour(7, 0);
        Due.is("8 blitz puts 0 at least", x.of(5, 5), 0);
        x.pour(7, 60);
        Due.is("8 blitz of a small pot", x.of(5, 6), 11);
        x.pour(7, 499);
        Due.is("8 blitz of 499", x.of(5, 6), 11);
        x.pour(7, 500);
        Due.is("8 blitz of 500", x.of(5, 6), 1);
        x.pour(7, 99999);
        Due.is("8 puts is told as the kind has it", x.of(0, 5), 105);
    }

    private static void set() {
        StockPot x = new StockPot();
        Due.is("9 no cooks", x.set(0, 1, 1), Due.BEYOND);
        x.cook(0);
        int[] first = {0, 1, 100, 5};
        int[] most = {0, 11, 999, 9};
        for (int what = 1; what <= 3; what++) {
            Due.is("9 most", x.set(0, what, most[what]), first[what]);
            Due.is("9 beyond the most", x.set(0, what, most[what] + 1), Due.BEYOND);
            Due.is("9 stays", x.of(0, what), most[what]);
            Due.is("9 least", x.set(0, what, 0), most[what]);
            Due.is("9 became", x.of(0, what), 0);
            for (int wild : Due.WILD) {
                Due.is("9 v", x.set(0, what, wild), Due.BEYOND);
            }
        }
        Due.is("9 what 0", x.set(0, 0, 1), Due.BEYOND);
        Due.is("9 what 4", x.set(0, 4, 1), Due.BEYOND);
        Due.is("9 cook 1", x.set(1, 1, 1), Due.BEYOND);
        for (int wild : Due.WILD) {
            Due.is("9 cook", x.set(wild, 1, 1), Due.BEYOND);
            Due.is("9 what", x.set(0, wild, 1), Due.BEYOND);
        }
    }

    private static void turn() {
        StockPot x = new StockPot();
        Due.is("10 no cooks", x.turn(0, 1), Due.BEYOND);
        x.cook(3);
        x.set(0, 2, 77);
        Due.is("10 turn(0, 5)", x.turn(0, 5), 3);
        Due.is("10 became", x.of(0, 0), 5);
        Due.is("10 the weight stays", x.of(0, 2), 77);
        Due.is("10 the same", x.turn(0, 5), 5);
        Due.is("10 turn(0, 0)", x.turn(0, 0), 5);
        Due.is("10 kind 6", x.turn(0, 6), Due.BEYOND);
        Due.is("10 cook 1", x.turn(1, 0), Due.BEYOND);
        for (int wild : Due.WILD) {
            Due.is("10 cook", x.turn(wild, 0), Due.BEYOND);
            Due.is("10 kind", x.turn(0, wild), Due.BEYOND);
        }
        Due.is("10 stays", x.of(0, 0), 0);
    }

    private static void as() {
        StockPot x = oneOfEach();
        String[] kindsAbove = {"0", "01", "02", "03", "014", "025"};
        for (int cook = 0; cook < 6; cook++) {
            x.set(cook, 2, 200 + cook);
            for (int kind = 0; kind < 6; kind++) {
                boolean is = kindsAbove[cook].indexOf('0' + kind) >= 0;
                Due.is("11 as(" + cook + ", " + kind + ")", x.as(cook, kind), is ? 200 + cook : Due.KIND);
            }
        }
        Due.is("11 kind 6", x.as(0, 6), Due.BEYOND);
        Due.is("11 cook 6", x.as(6, 1), Due.BEYOND);
        for (int wild : Due.WILD) {
            Due.is("11 cook", x.as(wild, 0), Due.BEYOND);
            Due.is("11 kind", x.as(1, wild), Due.BEYOND);
        }
    }

    private static void swap() {
        StockPot x = oneOfEach();
        for (int what = 1; what <= 3; what++) {
            x.set(1, what, 2);
            x.set(5, what, 8);
        }
        Due.is("12 swap(5, 1)", x.swap(5, 1), 1);
        Due.is("12 kind", x.of(1, 0), 5);
        Due.is("12 kind", x.of(5, 0), 1);
        for (int what = 1; what <= 3; what++) {
            Due.is("12 of(1, " + what + ")", x.of(1, what), 8);
            Due.is("12 of(5, " + what + ")", x.of(5, what), 2);
        }
        Due.is("12 one and the same", x.swap(2, 2), Due.BEYOND);
        Due.is("12 cook 6", x.swap(6, 0), Due.BEYOND);
        Due.is("12 other 6", x.swap(0, 6), Due.BEYOND);
        for (int wild : Due.WILD) {
            Due.is("12 cook", x.swap(wild, 0), Due.BEYOND);
            Due.is("12 other", x.swap(0, wild), Due.BEYOND);
        }
        Due.is("12 the year stays", x.now(0), 0);
    }
}
