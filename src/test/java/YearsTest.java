/** Promises 13 to 18. */
public final class YearsTest {
    // A cook of weight 100 and merit 0 that puts part 1 to 1000 of water, reckoned by hand.
    private static final int[] WATER_BY_YEARS = {1000, 900, 810, 729, 656, 590, 531, 477};

    public static void main(String[] args) {
        years();
        yearsByTurns();
        yearsToTheBrim();
        yearsToTheLast();
        now();
        on();
        vague();
        gone();
        strong();
        Due.end("YearsTest");
    }

    private static StockPot oneCook() {
        StockPot x = new StockPot();
        x.cook(0);
        x.set(0, 3, 0);
        return x;
    }

    private static void years() {
        StockPot x = oneCook();
        for (int n = 1; n < WATER_BY_YEARS.length; n++) {
            Due.is("13 years(1)", x.years(1), 1000);
            Due.amounts("13 by years", x, WATER_BY_YEARS[n], 1000 - WATER_BY_YEARS[n]);
        }
        x = oneCook();
        Due.is("13 years(7)", x.years(7), 1000);
        Due.amounts("13 seven at once", x, 477, 523);
        Due.is("13 year", x.now(0), 7);
        Due.is("13 n 0", x.years(0), Due.BEYOND);
        Due.is("13 n 101", x.years(101), Due.BEYOND);
        for (int wild : Due.WILD) {
            Due.is("13 n", x.years(wild), Due.BEYOND);
        }
        Due.is("13 BEYOND changes nothing", x.now(0), 7);
        x = new StockPot();
        Due.is("13 without cooks", x.years(100), 1000);
        Due.is("13 year without cooks", x.now(0), 100);
    }

    private static void yearsByTurns() {
        StockPot x = new StockPot();
        for (int cook = 0; cook < 3; cook++) {
            x.cook(0);
            x.set(cook, 1, cook + 2);
            x.set(cook, 2, 0);
        }
        x.years(5);
        Due.amounts("13 in turn", x, 1000, 0, 10, 10, 5);
        x.cook(0);
        x.set(3, 2, 0);
        x.years(1);
        Due.amounts("13 a rest by four", x, 1000, 0, 10, 15, 5);
        // Below 500 as the year began, though the taking is the same.
        x = Due.potOf(0, 499);
        x.cook(5);
        x.years(1);
        Due.amounts("13 blitz", x, 0, 199, 0, 0, 0, 0, 0, 0, 0, 0, 0, 185);
        x = Due.potOf(0, 0, 500);
        x.cook(5);
        x.years(1);
        Due.amounts("13 blitz of 500", x, 0, 185, 200);
    }

    private static void yearsToTheBrim() {
        StockPot x = Due.potOf(0, 0, 99999);
        x.cook(2);
        Due.is("13 no more than 99999", x.years(1), 99999);
        Due.amounts("13 brim", x, 0, 150, 99849);
        x.pour(1, 140);
        Due.is("13 just the room that is left", x.years(1), 99999);
        x = Due.potOf(0);
        x.cook(0);
        Due.is("13 into nothing", x.years(1), 5);
    }

    private static void yearsToTheLast() {
        StockPot x = new StockPot();
        for (int n = 0; n < 99; n++) {
            x.years(100);
        }
        x.years(98);
        Due.is("13 above 9999", x.years(2), Due.STATE);
        Due.is("13 above 9999", x.years(100), Due.STATE);
        Due.is("13 BEYOND goes before STATE", x.years(101), Due.BEYOND);
        Due.is("13 STATE changes nothing", x.now(0), 9998);
        Due.is("13 9999", x.years(1), 1000);
        Due.is("13 9999", x.now(0), 9999);
        Due.is("13 behind 9999", x.years(1), Due.STATE);
        x.cook(0);
        x.set(0, 3, 0);
        Due.is("15 on behind 9999", x.on(0, 7, 0), 477);
        Due.is("17 gone behind 9999", x.gone(0, 477), 7);
    }

    private static void now() {
        StockPot x = Due.potOf(3, 0, 9, 0, 9, 0, 0, 0, 0, 0, 0, 1);
        x.cook(0);
        x.cook(0);
        x.cook(0);
        int[] wanted = {0, 22, 0, 1 | 4 | 16 | 2048, 0, 2};
        for (int what = 0; what < wanted.length; what++) {
            Due.is("14 now(" + what + ")", x.now(what), wanted[what]);
        }
        x.years(4);
        Due.is("14 whose turn", x.now(2), 1);
        x.years(4);
        Due.is("14 whose turn", x.now(2), 2);
        x.years(2);
        Due.is("14 whose turn in year 10", x.now(2), 1);
        Due.is("14 most of part 1", Due.potOf(0, 3, 2).now(5), 1);
        Due.is("14 most of part 11", Due.potOf(1, 1, 1, 1, 1, 1, 1, 1, 1, 1, 1, 2).now(5), 11);
        Due.is("14 of all parts nothing", Due.potOf(0).now(5), 0);
        Due.is("14 no parts", Due.potOf(0).now(3), 0);
        Due.is("14 just 500", Due.potOf(500, 500).now(4), 0);
        Due.is("14 cut to 500", Due.potOf(5005, 4995).now(4), 0);
        Due.is("14 above 500", Due.potOf(501, 499).now(4), 1);
        Due.is("14 what 6", x.now(6), Due.BEYOND);
        for (int wild : Due.WILD) {
            Due.is("14 what", x.now(wild), Due.BEYOND);
        }
    }

    private static void on() {
        StockPot x = oneCook();
        for (int n = 0; n < WATER_BY_YEARS.length; n++) {
            Due.is("15 water on " + n, x.on(0, n, 0), WATER_BY_YEARS[n]);
            Due.is("15 part 1 on " + n, x.on(1, n, 0), 1000 - WATER_BY_YEARS[n]);
        }
        x.pour(2, 1000);
        Due.is("15 taste now", x.on(2, 0, 1), 500);
        Due.is("15 taste", x.on(0, 1, 1), 475);
        Due.amounts("15 nothing changes", x, 1000, 0, 1000);
        Due.is("15 nor the year", x.now(0), 0);
        Due.is("15 n 100", x.on(3, 100, 0), 0);
        Due.is("15 n 101", x.on(0, 101, 0), Due.BEYOND);
        Due.is("15 part 12", x.on(12, 0, 0), Due.BEYOND);
        Due.is("15 what 2", x.on(0, 0, 2), Due.BEYOND);
        for (int wild : Due.WILD) {
            Due.is("15 part", x.on(wild, 0, 0), Due.BEYOND);
            Due.is("15 n", x.on(0, wild, 0), Due.BEYOND);
            Due.is("15 what", x.on(0, 0, wild), Due.BEYOND);
        }
    }

    private static void vague() {
        StockPot x = Due.potOf(0, 1000);
        x.cook(3);
        Due.is("16 by a watery cook", x.vague(), 7);
        Due.amounts("16 nothing changes", x, 0, 1000);
        x.years(7);
        Due.is("16 at once", x.vague(), 0);
        Due.is("16 never", Due.potOf(0, 1).vague(), Due.NONE);
        // Of 2 grains a year that go in, 200 years make 400 and 201 make 402.
        x = Due.potOf(0, 399);
        x.cook(0);
        x.set(0, 1, 0);
        x.set(0, 2, 0);
        x.set(0, 3, 2);
        Due.is("16 400 of 799 is cut to 500", x.vague(), Due.NONE);
        x.pour(1, 398);
        Due.is("16 in 200 years", x.vague(), 200);
    }

    private static void gone() {
        StockPot x = oneCook();
        Due.is("17 at once", x.gone(0, 1000), 0);
        Due.is("17 just so many", x.gone(0, 900), 1);
        Due.is("17 fewer", x.gone(0, 899), 2);
        Due.is("17 477", x.gone(0, 477), 7);
        Due.is("17 of none", x.gone(5, 0), 0);
        Due.is("17 99999", x.gone(5, 99999), 0);
        Due.is("17 never", new StockPot().gone(0, 999), Due.NONE);
        Due.amounts("17 nothing changes", x, 1000);
        Due.is("17 part 12", x.gone(12, 0), Due.BEYOND);
        Due.is("17 v 100000", x.gone(0, 100000), Due.BEYOND);
        for (int wild : Due.WILD) {
            Due.is("17 part", x.gone(wild, 0), Due.BEYOND);
            Due.is("17 v", x.gone(0, wild), Due.BEYOND);
        }
        // A single grain is taken of the first part that has any, so part 2 loses one a year.
        x = Due.potOf(0, 0, 200);
        x.cook(0);
        x.set(0, 1, 11);
        x.set(0, 2, 1);
        x.set(0, 3, 0);
        Due.is("17 in 200 years", x.gone(2, 0), 200);
        x.pour(2, 201);
        Due.is("17 in 201 years", x.gone(2, 0), Due.NONE);
    }

    private static void strong() {
        StockPot x = oneCook();
        Due.is("18 at once", x.strong(1, 0), 0);
        Due.is("18 just so much", x.strong(1, 100), 1);
        Due.is("18 more", x.strong(1, 101), 2);
        Due.is("18 523", x.strong(1, 523), 7);
        Due.is("18 water now", x.strong(0, 1000), 0);
        Due.is("18 never", x.strong(2, 1), Due.NONE);
        Due.amounts("18 nothing changes", x, 1000);
        Due.is("18 part 12", x.strong(12, 0), Due.BEYOND);
        Due.is("18 w 1001", x.strong(0, 1001), Due.BEYOND);
        for (int wild : Due.WILD) {
            Due.is("18 part", x.strong(wild, 0), Due.BEYOND);
            Due.is("18 w", x.strong(0, wild), Due.BEYOND);
        }
        // 1 grain a year: of 800 that stay, part 1 is 200 of 1000 in 200 years.
        x = Due.potOf(800);
        x.cook(0);
        x.set(0, 2, 0);
        x.set(0, 3, 1);
        Due.is("18 in 200 years", x.strong(1, 200), 200);
        x.pour(0, 801);
        Due.is("18 in 201 years", x.strong(1, 200), Due.NONE);
    }
}
