/** Promises 1 to 6. */
public final class PotTest {
    public static void main(String[] args) {
        newObject();
        grains();
        pour();
        taste();
        spoon();
        spoonOf();
        Due.end("PotTest");
    }

    private static void newObject() {
        StockPot x = new StockPot();
        Due.amounts("1 new", x, 1000);
        Due.is("1 new now(0)", x.now(0), 0);
        Due.is("1 new now(1)", x.now(1), 1000);
        Due.is("1 new now(2)", x.now(2), -1);
        Due.is("1 new count(0)", x.count(0), 0);
        Due.is("1 new count(1)", x.count(1), 0);
        Due.is("1 new status(-1)", x.status(-1), 0);
        Due.is("1 new tear()", x.tear(), 0);
        Due.is("1 new undo()", x.undo(), Due.NONE);
        for (int s = 0; s < 4; s++) {
            Due.is("1 new lays", x.lays(s), Due.MISSING);
        }
        x.pour(4, 7);
        Due.is("1 objects are apart", new StockPot().grains(4), 0);
    }

    private static void grains() {
        StockPot x = Due.potOf(5, 6, 7, 8, 9, 10, 11, 12, 13, 14, 15, 16);
        for (int part = 0; part < 12; part++) {
            Due.is("2 grains(" + part + ")", x.grains(part), 5 + part);
        }
        Due.is("2 grains(12)", x.grains(12), Due.BEYOND);
        for (int wild : Due.WILD) {
            Due.is("2 grains(" + wild + ")", x.grains(wild), Due.BEYOND);
        }
    }

    private static void pour() {
        StockPot x = new StockPot();
        Due.is("3 pour to the brim", x.pour(1, 98999), 0);
        Due.is("3 the same again", x.pour(1, 98999), 98999);
        Due.is("3 one too many", x.pour(2, 1), Due.FULL);
        Due.is("3 one too many where some is", x.pour(1, 99000), Due.FULL);
        Due.amounts("3 FULL changes nothing", x, 1000, 98999);
        Due.is("3 what it was", x.pour(0, 0), 1000);
        Due.is("3 room again", x.pour(11, 1000), 0);
        Due.is("3 all", x.now(1), 99999);
        Due.is("3 BEYOND goes before FULL", x.pour(12, 1), Due.BEYOND);
        Due.is("3 v too great", x.pour(0, 100000), Due.BEYOND);
        for (int wild : Due.WILD) {
            Due.is("3 part", x.pour(wild, 1), Due.BEYOND);
            Due.is("3 v", x.pour(3, wild), Due.BEYOND);
        }
        Due.amounts("3 BEYOND changes nothing", x, 0, 98999, 0, 0, 0, 0, 0, 0, 0, 0, 0, 1000);
    }

    private static void taste() {
        StockPot x = Due.potOf(1000, 500);
        Due.is("4 cut", x.taste(0), 666);
        Due.is("4 cut", x.taste(1), 333);
        Due.is("4 none of it", x.taste(2), 0);
        Due.is("4 the greatest pot", Due.potOf(0, 99999).taste(1), 1000);
        Due.is("4 no grains", Due.potOf(0).taste(0), 0);
        Due.is("4 part 12", x.taste(12), Due.BEYOND);
        for (int wild : Due.WILD) {
            Due.is("4 part", x.taste(wild), Due.BEYOND);
        }
    }

    private static void spoon() {
        StockPot x = Due.potOf(1000, 500, 1);
        Due.is("5 spoon(10)", x.spoon(10), 10);
        Due.amounts("5 one grain more of the first", x, 993, 497, 1);
        x = Due.potOf(0, 3, 3, 3);
        Due.is("5 spoon(5)", x.spoon(5), 5);
        Due.amounts("5 more by numbers, none of what isn't there", x, 0, 1, 1, 2);
        Due.is("5 no more than all", x.spoon(999), 4);
        Due.amounts("5 nothing left", x);
        Due.is("5 of nothing", x.spoon(1), 0);
        Due.is("5 all of nothing", x.now(1), 0);
        x = Due.potOf(50000, 49999);
        Due.is("5 of the greatest pot", x.spoon(999), 999);
        Due.amounts("5 of the greatest pot", x, 49500, 49500);
        Due.is("5 spoon(0)", x.spoon(0), Due.BEYOND);
        Due.is("5 spoon(1000)", x.spoon(1000), Due.BEYOND);
        for (int wild : Due.WILD) {
            Due.is("5 t", x.spoon(wild), Due.BEYOND);
        }
        Due.is("5 year stays", x.now(0), 0);
    }

    private static void spoonOf() {
        StockPot x = Due.potOf(1000, 500, 1);
        Due.is("6 spoonOf(0, 10)", x.spoonOf(0, 10), 7);
        Due.is("6 spoonOf(1, 10)", x.spoonOf(1, 10), 3);
        Due.is("6 spoonOf(2, 10)", x.spoonOf(2, 10), 0);
        Due.is("6 spoonOf(3, 10)", x.spoonOf(3, 10), 0);
        Due.amounts("6 nothing changes", x, 1000, 500, 1);
        x = Due.potOf(0, 0, 6);
        Due.is("6 no more than all", x.spoonOf(2, 999), 6);
        x = Due.potOf(0);
        Due.is("6 of nothing", x.spoonOf(0, 1), 0);
        Due.is("6 part 12", x.spoonOf(12, 1), Due.BEYOND);
        Due.is("6 t 0", x.spoonOf(0, 0), Due.BEYOND);
        Due.is("6 t 1000", x.spoonOf(0, 1000), Due.BEYOND);
        for (int wild : Due.WILD) {
            Due.is("6 part", x.spoonOf(wild, 1), Due.BEYOND);
            Due.is("6 t", x.spoonOf(0, wild), Due.BEYOND);
        }
    }
}
