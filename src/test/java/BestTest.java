/** Promises 19 to 24. */
public final class BestTest {
    public static void main(String[] args) {
        better();
        weight();
        kind();
        puts();
        best();
        dull();
        nothingChanges();
        Due.end("BestTest");
    }

    private static void addCooks(StockPot x, int... parts) {
        for (int part : parts) {
            int cook = x.cook(0);
            x.set(cook, 1, part);
            x.set(cook, 3, 0);
        }
    }

    private static StockPot withCooks(int... parts) {
        StockPot x = new StockPot();
        addCooks(x, parts);
        return x;
    }

    private static void better() {
        StockPot x = withCooks(1, 2);
        Due.is("19 the other one first", x.better(2, 1), 1);
        Due.is("19 not more than as it is", x.better(1, 1), Due.NONE);
        Due.is("19 none of it anyway", x.better(7, 60), Due.NONE);
        x = withCooks(1, 1);
        x.set(0, 2, 200);
        Due.is("19 less than now, but more than as it is", x.better(0, 1), 1);
        Due.is("19 no cooks", new StockPot().better(0, 60), Due.NONE);
        Due.is("19 one cook", withCooks(1).better(1, 60), Due.NONE);
        x = withCooks(1, 2, 2);
        Due.is("19 of several the least", x.better(2, 1), 1);
        x.set(2, 2, 200);
        Due.is("19 the most", x.better(2, 1), 2);
        x = withCooks(1, 1, 2);
        Due.is("19 the later turn keeps more", x.better(2, 2), 12);
        x = withCooks(1, 1, 1, 1, 1, 1, 1, 2);
        Due.is("19 the last two", x.better(2, 7), 67);
        x.years(7);
        Due.is("19 by the year", x.better(1, 1), 7);
        Due.is("19 n 0", x.better(0, 0), Due.BEYOND);
        Due.is("19 n 61", x.better(0, 61), Due.BEYOND);
        Due.is("19 part 12", x.better(12, 1), Due.BEYOND);
        for (int wild : Due.WILD) {
            Due.is("19 part", x.better(wild, 1), Due.BEYOND);
            Due.is("19 n", x.better(0, wild), Due.BEYOND);
        }
    }

    private static void weight() {
        StockPot x = withCooks(1);
        Due.is("20 300 at once", x.weight(0, 1, 1, 300), 300);
        Due.is("20 0 grains", x.weight(0, 1, 1, 0), 0);
        Due.is("20 the heaviest", x.weight(0, 1, 1, 999), 999);
        Due.is("20 too heavy", x.weight(0, 1, 1, 1000), Due.NONE);
        Due.is("20 water is most with 0", x.weight(0, 0, 20, 1000), 0);
        Due.is("20 in two years", x.weight(0, 1, 2, 190), 100);
        x.set(0, 3, 5);
        Due.is("20 with merit", x.weight(0, 1, 1, 1004), 999);
        Due.is("20 with merit, too heavy", x.weight(0, 1, 1, 1005), Due.NONE);
        x.turn(0, 1);
        x.set(0, 3, 0);
        Due.is("20 frugal", x.weight(0, 1, 1, 100), 200);
        x = withCooks(2, 1);
        Due.is("20 not its turn", x.weight(1, 1, 1, 1), Due.NONE);
        Due.is("20 its turn", x.weight(1, 1, 2, 1), 1);
        Due.is("20 the weight stays", x.of(1, 2), 100);
        Due.is("20 n 0", x.weight(0, 0, 0, 0), Due.BEYOND);
        Due.is("20 n 21", x.weight(0, 0, 21, 0), Due.BEYOND);
        Due.is("20 v 100000", x.weight(0, 0, 1, 100000), Due.BEYOND);
        Due.is("20 part 12", x.weight(0, 12, 1, 0), Due.BEYOND);
        Due.is("20 cook 2", x.weight(2, 0, 1, 0), Due.BEYOND);
        for (int wild : Due.WILD) {
            Due.is("20 cook", x.weight(wild, 0, 1, 0), Due.BEYOND);
            Due.is("20 part", x.weight(0, wild, 1, 0), Due.BEYOND);
            Due.is("20 n", x.weight(0, 0, wild, 0), Due.BEYOND);
            Due.is("20 v", x.weight(0, 0, 1, wild), Due.BEYOND);
        }
    }

    private static void kind() {
        StockPot x = new StockPot();
        x.cook(0);
        Due.is("21 blitz puts most", x.kind(0, 1, 1), 5);
        Due.is("21 watery and statute leave all the water", x.kind(0, 0, 1), 3);
        Due.is("21 all the same", x.kind(0, 7, 60), 0);
        x.set(0, 3, 9);
        Due.is("21 statute puts part 3", x.kind(0, 3, 1), 4);
        x.set(0, 1, 0);
        Due.is("21 grand water", x.kind(0, 0, 1), 2);
        Due.is("21 the kind stays", x.of(0, 0), 0);
        x.turn(0, 5);
        Due.is("21 another than it is", x.kind(0, 0, 1), 2);
        Due.is("21 n 0", x.kind(0, 0, 0), Due.BEYOND);
        Due.is("21 n 61", x.kind(0, 0, 61), Due.BEYOND);
        Due.is("21 part 12", x.kind(0, 12, 1), Due.BEYOND);
        Due.is("21 cook 1", x.kind(1, 0, 1), Due.BEYOND);
        for (int wild : Due.WILD) {
            Due.is("21 cook", x.kind(wild, 0, 1), Due.BEYOND);
            Due.is("21 part", x.kind(0, wild, 1), Due.BEYOND);
            Due.is("21 n", x.kind(0, 0, wild), Due.BEYOND);
        }
    }

    private static void puts() {
        StockPot x = withCooks(1);
        Due.is("22 water alone counts", x.puts(0, 1), 0);
        x = Due.potOf(600, 400);
        addCooks(x, 5);
        Due.is("22 the lesser one", x.puts(0, 1), 1);
        x = Due.potOf(500, 500);
        addCooks(x, 5);
        Due.is("22 of several the least", x.puts(0, 1), 0);
        x = Due.potOf(0);
        addCooks(x, 5);
        x.set(0, 3, 5);
        Due.is("22 no grains now", x.puts(0, 60), 0);
        x = Due.potOf(0, 300, 0, 0, 200, 0, 0, 0, 0, 0, 0, 100);
        addCooks(x, 5);
        Due.is("22 the last part", x.puts(0, 1), 11);
        Due.is("22 the part stays", x.of(0, 1), 5);
        Due.is("22 n 0", x.puts(0, 0), Due.BEYOND);
        Due.is("22 n 61", x.puts(0, 61), Due.BEYOND);
        Due.is("22 cook 1", x.puts(1, 1), Due.BEYOND);
        for (int wild : Due.WILD) {
            Due.is("22 cook", x.puts(wild, 1), Due.BEYOND);
            Due.is("22 n", x.puts(0, wild), Due.BEYOND);
        }
    }

    private static void best() {
        StockPot x = Due.potOf(1000, 10, 10);
        Due.is("23 of several the least", x.best(0), 1);
        x.pour(2, 11);
        Due.is("23 the greatest", x.best(0), 2);
        x.pour(0, 90000);
        Due.is("23 tastes are cut, so there are several", x.best(0), 1);
        Due.is("23 but for water", new StockPot().best(100), 1);
        Due.is("23 nothing", Due.potOf(0).best(0), 1);
        Due.is("23 part 11", Due.potOf(0, 0, 4, 0, 0, 0, 0, 0, 0, 0, 0, 5).best(0), 11);
        Due.is("23 on", withCooks(4).best(1), 4);
        Due.is("23 n 101", x.best(101), Due.BEYOND);
        for (int wild : Due.WILD) {
            Due.is("23 n", x.best(wild), Due.BEYOND);
        }
    }

    private static void dull() {
        StockPot x = Due.potOf(450, 550);
        addCooks(x, 1, 2);
        Due.is("24 if cook 0 put water", x.dull(1), 2);
        x.set(0, 1, 0);
        Due.is("24 its own part counts too", x.dull(1), 3);
        Due.is("24 no cooks", new StockPot().dull(60), 0);
        x = new StockPot();
        for (int cook = 0; cook < 8; cook++) {
            x.cook(0);
        }
        Due.is("24 all eight", x.dull(1), 255);
        // Statute puts carrots in year 0, whatever its part is; 9 grains of merit leave it 4.
        x = Due.potOf(504, 500);
        x.cook(4);
        x.cook(0);
        x.set(0, 3, 9);
        Due.is("24 statute has carrots still", x.dull(1), 0);
        x.set(0, 3, 4);
        Due.is("24 statute without carrots", x.dull(1), 3);
        Due.is("24 n 0", x.dull(0), Due.BEYOND);
        Due.is("24 n 61", x.dull(61), Due.BEYOND);
        for (int wild : Due.WILD) {
            Due.is("24 n", x.dull(wild), Due.BEYOND);
        }
    }

    private static void nothingChanges() {
        StockPot x = Due.potOf(450, 550, 0, 7);
        addCooks(x, 1, 2, 3);
        x.better(1, 60);
        x.weight(1, 1, 20, 500);
        x.kind(1, 1, 60);
        x.puts(1, 60);
        x.best(100);
        x.dull(60);
        Due.amounts("19 to 24 change nothing", x, 450, 550, 0, 7);
        Due.is("19 to 24 nor the year", x.now(0), 0);
        for (int cook = 0; cook < 3; cook++) {
            Due.is("19 to 24 nor a kind", x.of(cook, 0), 0);
            Due.is("19 to 24 nor a part", x.of(cook, 1), cook + 1);
            Due.is("19 to 24 nor a weight", x.of(cook, 2), 100);
            Due.is("19 to 24 nor a merit", x.of(cook, 3), 0);
        }
    }
}
