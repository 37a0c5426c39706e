/** The boundary cases of promises 19 to 24, a method for each sentence. */
public final class EdgeBestTest {
    public static void main(String[] args) {
        betterLesserAndOther();
        betterOfSeveral();
        betterMoreThanAsItIs();
        betterBeyond();
        betterNone();
        weightLeast();
        weightBeyond();
        weightNone();
        kindMost();
        kindOfSeveral();
        kindBeyond();
        putsGreatest();
        putsOfNoGrains();
        putsOfPartsThereNow();
        putsOfWaterAlone();
        putsOfSeveral();
        putsBeyond();
        bestButForWater();
        bestOfSeveral();
        bestBeyond();
        dullAsASet();
        dullOfOthers();
        dullBeyond();
        Due.end("EdgeBestTest");
    }

    /** Cooks of weight 100 and merit 0 that put these parts. */
    private static StockPot with(StockPot x, int... parts) {
        for (int part : parts) {
            Due.addCook(x, 0, part, 100, 0);
        }
        return x;
    }

    private static void betterLesserAndOther() {
        Due.sentence("19 10 times the lesser and the other one");
        for (int cook = 1; cook < 8; cook++) {
            StockPot x = with(new StockPot(), 5, 5, 5, 5, 5, 5, 5, 5);
            x.set(cook, 1, 9);
            Due.is("0 and " + cook, x.better(9, 1), cook);
        }
        for (int cook = 0; cook < 7; cook++) {
            StockPot x = Due.inYear(new StockPot(), 7);
            with(x, 5, 5, 5, 5, 5, 5, 5, 5);
            x.set(cook, 1, 9);
            Due.is(cook + " and 7", x.better(9, 1), 10 * cook + 7);
        }
        StockPot x = with(new StockPot(), 1, 9);
        Due.is("of two", x.better(9, 1), 1);
    }

    private static void betterOfSeveral() {
        Due.sentence("19 of several the least");
        StockPot x = with(new StockPot(), 5, 9, 9, 9, 9, 9, 9, 9);
        Due.is("any of seven", x.better(9, 1), 1);
        x = Due.inYear(new StockPot(), 7);
        with(x, 9, 9, 9, 9, 9, 9, 9, 5);
        Due.is("any of seven for the last", x.better(9, 1), 7);
        x = with(new StockPot(), 5, 9, 9, 5);
        x.set(2, 2, 101);
        Due.is("most goes before least", x.better(9, 1), 2);
    }

    private static void betterMoreThanAsItIs() {
        Due.sentence("19 so that there is most of a PART, more than as it is");
        StockPot x = with(new StockPot(), 9, 9);
        Due.is("just as much", x.better(9, 1), Due.NONE);
        x.set(1, 2, 101);
        Due.is("one more", x.better(9, 1), 1);
        x.set(1, 2, 99);
        Due.is("one fewer", x.better(9, 1), Due.NONE);
        x = with(new StockPot(), 5, 5);
        x.set(1, 2, 99);
        Due.is("fewer than now, more than as it is", x.better(0, 1), 1);
    }

    private static StockPot inTheMiddle(int part) {
        return with(new StockPot(), 5, part, 5);
    }

    private static void betterBeyond() {
        Due.sentence("19 ON n YEARS (1 to 60). BEYOND.");
        Due.range("part", 0, 11, part -> inTheMiddle(part).better(part, 1));
        Due.range("n", 1, 60, n -> inTheMiddle(9).better(9, n));
        Due.is("on 1 the first is best", inTheMiddle(9).better(9, 1), 1);
        Due.is("on 60 the last is best", inTheMiddle(9).better(9, 60), 12);
    }

    private static void betterNone() {
        Due.sentence("19 NONE.");
        Due.is("no cooks", new StockPot().better(0, 60), Due.NONE);
        Due.is("one cook", with(new StockPot(), 9).better(9, 60), Due.NONE);
        Due.is("eight alike", with(new StockPot(), 9, 9, 9, 9, 9, 9, 9, 9).better(9, 60), Due.NONE);
        Due.is("none of it", with(new StockPot(), 1, 2, 3).better(9, 60), Due.NONE);
        Due.is("best as it is", with(new StockPot(), 9, 5).better(9, 1), Due.NONE);
    }

    private static void weightLeast() {
        Due.sentence("20 The least WEIGHT (0 to 999) with which there are v GRAINS (0 to 99999) or more of a PART");
        StockPot x = with(Due.potOf(0, 0, 2000), 9);
        Due.is("v 0", x.weight(0, 9, 1, 0), 0);
        Due.is("v 1", x.weight(0, 9, 1, 1), 1);
        Due.is("v 998", x.weight(0, 9, 1, 998), 998);
        Due.is("v 999", x.weight(0, 9, 1, 999), 999);
        Due.is("what was there, and none taken", x.weight(0, 2, 20, 2000), 0);
        x.turn(0, 1);
        Due.is("frugal, v 1", x.weight(0, 9, 1, 1), 2);
        Due.is("frugal, v 499", x.weight(0, 9, 1, 499), 998);
        Due.is("frugal, v 500", x.weight(0, 9, 1, 500), Due.NONE);
        x = with(Due.potWith(9, 99999), 9);
        Due.is("v 99999", x.weight(0, 9, 20, 99999), 0);
        // Part 9 grows by merit alone: 5 in each of 20 years.
        x = Due.potWith(9, 10);
        Due.addCook(x, 0, 9, 100, 5);
        Due.is("on 20, just so many", x.weight(0, 9, 20, 110), 0);
        Due.is("on 20, one too many", x.weight(0, 9, 20, 111), Due.NONE);
    }

    private static void weightBeyond() {
        Due.sentence("20 ON n YEARS (1 to 20). BEYOND.");
        Due.range("cook", 0, 0, cook -> with(new StockPot(), 9).weight(cook, 0, 1, 0));
        Due.range("cook, of eight", 0, 7, cook -> Due.withCooks(new StockPot(), 8).weight(cook, 0, 1, 0));
        Due.range("part", 0, 11, part -> with(new StockPot(), 9).weight(0, part, 1, 0));
        Due.range("n", 1, 20, n -> with(new StockPot(), 9).weight(0, 9, n, 0));
        Due.range("v", 0, 99999, v -> with(Due.potWith(9, 99999), 9).weight(0, 9, 1, v));
    }

    private static void weightNone() {
        Due.sentence("20 NONE.");
        StockPot x = with(Due.potOf(0, 0, 2000), 9);
        Due.is("v 1000", x.weight(0, 9, 1, 1000), Due.NONE);
        Due.is("v 99999", x.weight(0, 9, 20, 99999), Due.NONE);
        Due.is("of a part that none puts", x.weight(0, 8, 20, 1), Due.NONE);
        x = with(new StockPot(), 5, 9);
        Due.is("its turn doesn't come", x.weight(1, 9, 1, 1), Due.NONE);
        Due.is("its turn comes", x.weight(1, 9, 2, 1), 1);
        Due.is("its weight stays", x.of(1, 2), 100);
    }

    private static void kindMost() {
        Due.sentence("21 The KIND as one of which a COOK leaves most of a PART ON n YEARS");
        StockPot x = with(new StockPot(), 9);
        // 100, 50, 165, nothing, 0 and 180 of part 9 in year 0.
        Due.is("blitz", x.kind(0, 9, 1), 5);
        x.pour(0, 499);
        Due.is("not blitz, which puts 11 of 499", x.kind(0, 9, 1), 2);
        Due.is("but part 11", x.kind(0, 11, 1), 5);
        Due.is("its kind stays", x.of(0, 0), 0);
        x.turn(0, 3);
        Due.is("whatever it is", x.kind(0, 9, 1), 2);
        x = with(Due.potWith(9, 99999), 5);
        Due.is("statute takes none in year 0", x.kind(0, 9, 1), 4);
    }

    private static void kindOfSeveral() {
        Due.sentence("21 of several the least");
        Due.is("its turn doesn't come", with(new StockPot(), 5, 9).kind(1, 9, 1), 0);
        Due.is("none of it by any", with(new StockPot(), 5).kind(0, 9, 60), 0);
        Due.is("watery and statute leave all", with(new StockPot(), 5).kind(0, 0, 1), 3);
        Due.is("water by all but grand and blitz", with(Due.empty(), 0).kind(0, 0, 1), 0);
    }

    private static void kindBeyond() {
        Due.sentence("21 ON n YEARS (1 to 60). BEYOND.");
        Due.range("cook", 0, 0, cook -> with(new StockPot(), 9).kind(cook, 9, 1));
        Due.range("cook, of eight", 0, 7, cook -> Due.withCooks(new StockPot(), 8).kind(cook, 9, 1));
        Due.range("part", 0, 11, part -> with(new StockPot(), 9).kind(0, part, 1));
        Due.range("n", 1, 60, n -> with(new StockPot(), 9).kind(0, 9, n));
    }

    private static void putsGreatest() {
        Due.sentence("22 so that the least TASTE of PARTS is greatest ON n YEARS");
        StockPot x = with(Due.potOf(400, 0, 0, 300, 0, 0, 0, 0, 0, 0, 0, 250), 5);
        Due.is("the last part", x.puts(0, 1), 11);
        x.pour(11, 300);
        x.pour(3, 250);
        Due.is("the lesser one", x.puts(0, 1), 3);
        x.pour(0, 200);
        Due.is("water", x.puts(0, 1), 0);
        Due.is("its part stays", x.of(0, 1), 5);
    }

    private static void putsOfNoGrains() {
        Due.sentence("22 (0, if there are none)");
        StockPot x = Due.empty();
        Due.addCook(x, 0, 5, 100, 9);
        Due.is("nothing on 1", x.puts(0, 1), 0);
        Due.is("nothing on 60", x.puts(0, 60), 0);
    }

    private static void putsOfPartsThereNow() {
        Due.sentence("22 PARTS of which there are GRAINS now");
        // Part 9 is there only from year 0 on, by cook 0; it is not asked, and part 2 is.
        StockPot x = with(Due.potOf(0, 0, 1000), 9, 5);
        Due.is("what comes later isn't asked", x.puts(1, 2), 2);
        x.pour(9, 1);
        Due.is("one grain of it is", x.puts(1, 2), 9);
        x = Due.potWith(2, 1000);
        Due.addCook(x, 0, 5, 1, 0);
        Due.is("one part alone, 1000 of 1000 and not 999", x.puts(0, 1), 2);
    }

    /**
     * Only water is there now, and yet water is no best part: it leaves 10 of water, 5 of part 4 and 7 of part 11
     * ahead of year 12, part 11 leaves 10, 4 and 8. Half of these is taken; only the latter has no rest, for which
     * water would give one grain more.
     */
    private static void putsOfWaterAlone() {
        Due.sentence("22 the least TASTE of PARTS of which there are GRAINS now (WATER alone)");
        StockPot x = Due.inYear(Due.potOf(22), 9);
        Due.addCook(x, 0, 9, 11, 0);
        Due.addCook(x, 0, 4, 6, 0);
        Due.addCook(x, 0, 5, 1, 0);
        Due.addCook(x, 0, 11, 7, 0);
        Due.is("by a grain", x.puts(2, 4), 11);
        Due.is("water on 2 years", x.puts(2, 2), 0);
    }

    private static void putsOfSeveral() {
        Due.sentence("22 of several the least");
        Due.is("its turn doesn't come", with(Due.potOf(0, 5), 5, 5).puts(1, 1), 0);
        Due.is("as much of each, so more of one is no use", with(Due.potOf(0, 500, 0, 500), 5).puts(0, 1), 0);
        StockPot x = Due.potOf(500, 500);
        Due.addCook(x, 3, 5, 100, 0);
        Due.is("watery whatever its part", x.puts(0, 60), 0);
    }

    private static void putsBeyond() {
        Due.sentence("22 ON n YEARS (1 to 60). BEYOND.");
        Due.range("cook", 0, 0, cook -> with(new StockPot(), 9).puts(cook, 1));
        Due.range("cook, of eight", 0, 7, cook -> Due.withCooks(new StockPot(), 8).puts(cook, 1));
        Due.range("n", 1, 60, n -> with(new StockPot(), 9).puts(0, n));
    }

    private static void bestButForWater() {
        Due.sentence("23 The PART whose TASTE is greatest ON n YEARS (0 to 100), but for WATER");
        Due.is("water alone", new StockPot().best(0), 1);
        Due.is("a grain of the last in water", Due.potOf(9, 0, 0, 0, 0, 0, 0, 0, 0, 0, 0, 1).best(0), 11);
        Due.is("a full pot of water", Due.potWith(0, 99999).best(100), 1);
        Due.is("nothing", Due.empty().best(100), 1);
        StockPot x = Due.potOf(0, 0, 50);
        Due.addCook(x, 0, 9, 0, 1);
        Due.is("on 0", x.best(0), 2);
        Due.is("on 50 as much of each", x.best(50), 2);
        Due.is("on 51", x.best(51), 9);
        Due.is("on 100", x.best(100), 9);
    }

    private static void bestOfSeveral() {
        Due.sentence("23 of several the least");
        Due.is("all as much", Due.potOf(0, 3, 3, 3, 3, 3, 3, 3, 3, 3, 3, 3).best(0), 1);
        Due.is("the last two", Due.potOf(0, 0, 0, 0, 0, 0, 0, 0, 0, 0, 3, 3).best(0), 10);
        Due.is("a taste that is cut", Due.potOf(99000, 0, 98, 0, 0, 0, 0, 0, 0, 0, 0, 99).best(0), 1);
        Due.is("a taste that isn't", Due.potOf(98900, 0, 98, 0, 0, 0, 0, 0, 0, 0, 0, 100).best(0), 11);
    }

    private static void bestBeyond() {
        Due.sentence("23 BEYOND.");
        Due.range("n", 0, 100, n -> new StockPot().best(n));
        Due.range("n with cooks", 0, 100, n -> Due.withCooks(new StockPot(), 8).best(n));
    }

    private static void dullAsASet() {
        Due.sentence("24 Those COOKS, as a set");
        Due.is("none of no cooks", new StockPot().dull(60), 0);
        Due.is("one", with(new StockPot(), 9).dull(1), 1);
        Due.is("eight", with(new StockPot(), 9, 9, 9, 9, 9, 9, 9, 9).dull(1), 255);
        Due.is("none of eight", with(Due.potWith(1, 99999), 9, 9, 9, 9, 9, 9, 9, 9).dull(60), 0);
        // 460 of water is 414 when 100 are taken, and 514 if these are given back as water.
        StockPot x = Due.inYear(Due.potOf(460, 540), 7);
        Due.is("all but the one whose turn it is", with(x, 9, 9, 9, 9, 9, 9, 9, 9).dull(1), 127);
        x = with(Due.potOf(460, 540), 9, 9, 9, 9, 9, 9, 9, 9);
        Due.is("all but the first", x.dull(1), 254);
    }

    private static void dullOfOthers() {
        Due.sentence("24 by whom, were each PART of all others WATER, it is VAGUE ON n YEARS");
        StockPot x = with(Due.potOf(460, 540), 9, 9);
        Due.is("the other one", x.dull(1), 2);
        x.set(0, 1, 0);
        Due.is("water by itself", x.dull(1), 3);
        // Of 445 water stay 400 and 45 gone by one more grain; 100 make it 500, which isn't above 500.
        x = with(Due.potOf(445, 555), 9, 9);
        Due.is("just 500", x.dull(1), 0);
        x.pour(0, 446);
        x.pour(1, 554);
        Due.is("just 501", x.dull(1), 2);
        Due.is("parts stay", x.of(0, 1), 9);
        Due.is("parts stay", x.of(1, 1), 9);
        // Of 499 blitz puts part 11, whatever its own part is; of 500 it puts 185 of water.
        x = Due.potOf(249, 250);
        Due.addCook(x, 5, 9, 100, 5);
        Due.addCook(x, 0, 9, 100, 5);
        Due.is("blitz of 499", x.dull(1), 0);
        x.pour(0, 250);
        Due.is("blitz of 500", x.dull(1), 2);
    }

    private static void dullBeyond() {
        Due.sentence("24 ON n YEARS (1 to 60). BEYOND.");
        Due.range("n", 1, 60, n -> new StockPot().dull(n));
        Due.range("n with cooks", 1, 60, n -> Due.withCooks(new StockPot(), 8).dull(n));
    }
}
