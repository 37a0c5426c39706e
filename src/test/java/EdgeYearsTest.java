/** The boundary cases of promises 13 to 18, a method for each sentence. */
public final class EdgeYearsTest {
    public static void main(String[] args) {
        yearsAllThen();
        yearsBeyond();
        yearsState();
        nowYearAndAll();
        nowWhoseTurn();
        nowPartsAsASet();
        nowVague();
        nowMostGrains();
        nowBeyond();
        onLeastAndMost();
        onBeyond();
        vagueFirst();
        vagueNone();
        goneFirst();
        goneBeyond();
        goneNone();
        strongFirst();
        strongBeyond();
        strongNone();
        Due.end("EdgeYearsTest");
    }

    /** A cook that takes nothing and puts so many of a part each year. */
    private static StockPot giving(StockPot x, int part, int merit) {
        Due.addCook(x, 0, part, 0, merit);
        return x;
    }

    /** A cook that takes one grain of part 2 each year, as long as there is any, and gives it for one of part 11. */
    private static StockPot losingOne(int v) {
        StockPot x = Due.potWith(2, v);
        Due.addCook(x, 0, 11, 1, 0);
        return x;
    }

    private static void yearsAllThen() {
        Due.sentence("13 n YEARS go (1 to 100): ALL then.");
        StockPot x = giving(new StockPot(), 4, 9);
        Due.is("years(1)", x.years(1), 1009);
        Due.is("now(0)", x.now(0), 1);
        Due.is("years(100)", x.years(100), 1909);
        Due.is("now(0)", x.now(0), 101);
        Due.is("years(99)", x.years(99), 2800);
        StockPot y = giving(new StockPot(), 4, 9);
        for (int n = 0; n < 100; n++) {
            y.years(1);
        }
        Due.is("a hundred one by one", y.now(1), 1900);
    }

    private static void yearsBeyond() {
        Due.sentence("13 BEYOND.");
        Due.range("years", 1, 100, n -> new StockPot().years(n));
        Due.range("years with cooks", 1, 100, n -> Due.withCooks(new StockPot(), 8).years(n));
    }

    private static void yearsState() {
        Due.sentence("13 STATE: YEAR would be above 9999.");
        StockPot x = Due.inYear(new StockPot(), 9899);
        Due.is("9999 by a hundred", x.years(100), 1000);
        Due.is("now(0)", x.now(0), 9999);
        x = Due.inYear(new StockPot(), 9900);
        Due.is("10000 by a hundred", x.years(100), Due.STATE);
        Due.is("now(0)", x.now(0), 9900);
        Due.is("9999 by 99", x.years(99), 1000);
        Due.is("10000 by one", x.years(1), Due.STATE);
        x = giving(Due.inYear(new StockPot(), 9998), 4, 9);
        Due.is("10000 by two", x.years(2), Due.STATE);
        Due.is("no year of them went", x.now(1), 1000);
        Due.is("9999 by one", x.years(1), 1009);
        Due.is("status(4)", x.status(4), 1);
    }

    private static void nowYearAndAll() {
        Due.sentence("14 What 0 YEAR, 1 ALL");
        StockPot x = new StockPot();
        Due.is("now(0)", x.now(0), 0);
        Due.is("now(1)", x.now(1), 1000);
        x.pour(0, 0);
        Due.is("now(1) of nothing", x.now(1), 0);
        x.pour(11, 99999);
        Due.is("now(1) of a full pot", x.now(1), 99999);
        Due.is("now(0) at last", Due.inYear(x, 9999).now(0), 9999);
    }

    private static void nowWhoseTurn() {
        Due.sentence("14 2 whose turn it is (-1: there are no COOKS)");
        StockPot x = new StockPot();
        Due.is("no cooks in year 0", x.now(2), -1);
        x.years(9);
        Due.is("no cooks in year 9", x.now(2), -1);
        int[] due = {0, 1, 0, 1, 4, 3, 2, 1};
        for (int many = 1; many <= 8; many++) {
            x.cook(0);
            Due.is("of " + many + " in year 9", x.now(2), due[many - 1]);
        }
        Due.is("no finding", x.status(-1), 0);
    }

    private static void nowPartsAsASet() {
        Due.sentence("14 3 PARTS of which there are GRAINS, as a set");
        Due.is("none", Due.empty().now(3), 0);
        Due.is("the first", Due.potWith(0, 1).now(3), 1);
        Due.is("the last", Due.potWith(11, 99999).now(3), 2048);
        Due.is("all", Due.potOf(1, 2, 1, 2, 1, 2, 1, 2, 1, 2, 1, 2).now(3), 4095);
        StockPot x = Due.potOf(1, 1);
        x.spoon(1);
        Due.is("what a spoon left", x.now(3), 2);
    }

    private static void nowVague() {
        Due.sentence("14 4 1 if it is VAGUE, else 0");
        Due.is("500", Due.potOf(500, 500).now(4), 0);
        Due.is("501", Due.potOf(501, 499).now(4), 1);
        Due.is("nothing", Due.empty().now(4), 0);
    }

    private static void nowMostGrains() {
        Due.sentence("14 5 the PART with most GRAINS (of several the least)");
        Due.is("of nothing", Due.empty().now(5), 0);
        for (int part = 0; part < 12; part++) {
            Due.is(part + " alone", Due.potWith(part, 1).now(5), part);
        }
        Due.is("all as many", Due.potOf(7, 7, 7, 7, 7, 7, 7, 7, 7, 7, 7, 7).now(5), 0);
        Due.is("the last two", Due.potOf(1, 1, 1, 1, 1, 1, 1, 1, 1, 1, 2, 2).now(5), 10);
        Due.is("the last by one", Due.potOf(8, 8, 8, 8, 8, 8, 8, 8, 8, 8, 8, 9).now(5), 11);
        Due.is("the first by one", Due.potOf(9, 8, 8, 8, 8, 8, 8, 8, 8, 8, 8, 8).now(5), 0);
    }

    private static void nowBeyond() {
        Due.sentence("14 BEYOND.");
        StockPot x = Due.withCooks(new StockPot(), 1);
        Due.range("now", 0, 5, x::now);
    }

    private static void onLeastAndMost() {
        Due.sentence("15 GRAINS (what 0), TASTE (1) of a PART ON n YEARS (0 to 100).");
        StockPot x = giving(new StockPot(), 11, 5);
        Due.is("on(11, 0, 0)", x.on(11, 0, 0), 0);
        Due.is("on(11, 1, 0)", x.on(11, 1, 0), 5);
        Due.is("on(11, 99, 0)", x.on(11, 99, 0), 495);
        Due.is("on(11, 100, 0)", x.on(11, 100, 0), 500);
        Due.is("on(0, 0, 1)", x.on(0, 0, 1), 1000);
        Due.is("on(0, 1, 1)", x.on(0, 1, 1), 995);
        Due.is("on(11, 100, 1)", x.on(11, 100, 1), 333);
        Due.is("on(0, 100, 1)", x.on(0, 100, 1), 666);
        Due.is("on(1, 100, 1)", x.on(1, 100, 1), 0);
        StockPot y = new StockPot();
        Due.is("without cooks, on(0, 100, 0)", y.on(0, 100, 0), 1000);
        Due.is("without cooks, on(0, 100, 1)", y.on(0, 100, 1), 1000);
    }

    private static void onBeyond() {
        Due.sentence("15 BEYOND.");
        StockPot x = Due.withCooks(new StockPot(), 2);
        Due.range("part", 0, 11, part -> x.on(part, 1, 0));
        Due.range("n", 0, 100, n -> x.on(1, n, 1));
        Due.range("what", 0, 1, what -> x.on(1, 1, what));
    }

    private static void vagueFirst() {
        Due.sentence("16 In how many YEARS (0 to 200) ON it is VAGUE first.");
        Due.is("now", new StockPot().vague(), 0);
        // Water is 2 by years; it is vague when 499 times water is 501 times the rest or more.
        Due.is("on 1", giving(Due.potOf(501, 500), 0, 2).vague(), 1);
        Due.is("on 199", giving(Due.potOf(0, 396), 0, 2).vague(), 199);
        Due.is("on 200", giving(Due.potOf(0, 397), 0, 2).vague(), 200);
        Due.is("on 200", giving(Due.potOf(0, 398), 0, 2).vague(), 200);
        StockPot x = giving(new StockPot(), 1, 9);
        Due.is("now, and not for long", x.vague(), 0);
        x = Due.potOf(0, 100);
        Due.addCook(x, 3, 1, 999, 0);
        Due.addCook(x, 0, 1, 999, 0);
        Due.is("first, of those by turns", x.vague(), 1);
    }

    private static void vagueNone() {
        Due.sentence("16 NONE.");
        Due.is("on 201", giving(Due.potOf(0, 399), 0, 2).vague(), Due.NONE);
        Due.is("never above 500", Due.potOf(500, 500).vague(), Due.NONE);
        Due.is("nothing", Due.empty().vague(), Due.NONE);
        StockPot x = Due.potWith(1, 99999);
        Due.is("a full pot", x.vague(), Due.NONE);
        Due.is("status(3)", x.status(3), 1);
    }

    private static void goneFirst() {
        Due.sentence("17 In how many YEARS (0 to 200) ON there are v GRAINS (0 to 99999) or fewer of a PART first.");
        StockPot x = losingOne(200);
        Due.is("as many as now", x.gone(2, 200), 0);
        Due.is("one fewer", x.gone(2, 199), 1);
        Due.is("all but one", x.gone(2, 1), 199);
        Due.is("all", x.gone(2, 0), 200);
        Due.is("the greatest v", x.gone(2, 99999), 0);
        Due.is("of none, v 0", x.gone(7, 0), 0);
        Due.is("99999 of 99999", Due.potWith(2, 99999).gone(2, 99999), 0);
        x = Due.potWith(2, 5);
        Due.addCook(x, 0, 11, 999, 0);
        Due.addCook(x, 0, 2, 999, 0);
        Due.is("first, of those by turns", x.gone(2, 0), 1);
    }

    private static void goneBeyond() {
        Due.sentence("17 BEYOND.");
        Due.range("part", 0, 11, part -> Due.empty().gone(part, 0));
        Due.range("v", 0, 99999, v -> Due.empty().gone(0, v));
    }

    private static void goneNone() {
        Due.sentence("17 NONE.");
        Due.is("on 201", losingOne(201).gone(2, 0), Due.NONE);
        Due.is("on 200", losingOne(201).gone(2, 1), 200);
        Due.is("never", new StockPot().gone(0, 999), Due.NONE);
        Due.is("never 99998", Due.potWith(5, 99999).gone(5, 99998), Due.NONE);
    }

    private static void strongFirst() {
        Due.sentence("18 In how many YEARS (0 to 200) ON TASTE of a PART is w (0 to 1000) or more first.");
        Due.is("w 0 of none", Due.empty().strong(11, 0), 0);
        Due.is("w 1000 now", new StockPot().strong(0, 1000), 0);
        // A grain by years beside as many as make its taste just 200 then.
        Due.is("on 1", giving(Due.potOf(4), 1, 1).strong(1, 200), 1);
        Due.is("on 199", giving(Due.potOf(796), 1, 1).strong(1, 200), 199);
        Due.is("on 200", giving(Due.potOf(800), 1, 1).strong(1, 200), 200);
        StockPot x = Due.potOf(5);
        Due.addCook(x, 0, 11, 999, 0);
        Due.is("w 1000 on 1", x.strong(11, 1000), 1);
        Due.addCook(x, 0, 10, 999, 0);
        Due.is("first, of those by turns", x.strong(11, 1000), 1);
        Due.is("first, of those by turns", x.strong(10, 1000), 2);
    }

    private static void strongBeyond() {
        Due.sentence("18 BEYOND.");
        Due.range("part", 0, 11, part -> new StockPot().strong(part, 0));
        Due.range("w", 0, 1000, w -> new StockPot().strong(0, w));
    }

    private static void strongNone() {
        Due.sentence("18 NONE.");
        Due.is("on 201", giving(Due.potOf(801), 1, 1).strong(1, 200), Due.NONE);
        Due.is("999 is not 1000", Due.potOf(99999 - 1, 1).strong(0, 1000), Due.NONE);
        Due.is("nothing", Due.empty().strong(0, 1), Due.NONE);
    }
}
