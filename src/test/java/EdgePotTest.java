/** The boundary cases of promises 1 to 6, a method for each sentence. */
public final class EdgePotTest {
    private static final int ALL_MOST = 99999;

    public static void main(String[] args) {
        newObject();
        grainsOfAPart();
        grainsBeyond();
        pourWhatTheyWere();
        pourBeyond();
        pourFull();
        tasteOfAPart();
        tasteBeyond();
        spoonLeastAndMost();
        spoonNoMoreThanAll();
        spoonBeyond();
        spoonOfAPart();
        spoonOfNoMoreThanAll();
        spoonOfNothingChanges();
        spoonOfBeyond();
        emptyPot();
        fullPot();
        Due.end("EdgePotTest");
    }

    private static void newObject() {
        Due.sentence("1 THE POT as at first, no COOKS; THE TAPE is empty, no image is kept.");
        StockPot x = new StockPot();
        Due.is("now(0)", x.now(0), 0);
        Due.is("now(1)", x.now(1), 1000);
        Due.is("now(2)", x.now(2), -1);
        Due.is("now(3)", x.now(3), 1);
        Due.is("count(0)", x.count(0), 0);
        Due.is("count(1)", x.count(1), 0);
        Due.is("wipe()", x.wipe(), 0);
        Due.is("college()", x.college(), -1);
        Due.is("status(-1)", x.status(-1), 0);
        Due.is("undo()", x.undo(), Due.NONE);
        Due.is("tear()", x.tear(), 0);
        Due.is("of(0, 0)", x.of(0, 0), Due.BEYOND);
        Due.is("status(-1), behind two findings", x.status(-1), 2);
        Due.is("status(-1) of another object", new StockPot().status(-1), 0);
    }

    private static void grainsOfAPart() {
        Due.sentence("2 GRAINS of a PART.");
        for (int part = 0; part < 12; part++) {
            Due.is("none of " + part, Due.empty().grains(part), 0);
            Due.is("one of " + part, Due.potWith(part, 1).grains(part), 1);
            Due.is("most of " + part, Due.potWith(part, ALL_MOST).grains(part), ALL_MOST);
        }
    }

    private static void grainsBeyond() {
        Due.sentence("2 BEYOND.");
        Due.range("grains", 0, 11, part -> new StockPot().grains(part));
    }

    private static void pourWhatTheyWere() {
        Due.sentence("3 GRAINS of a PART become v (0 to 99999): what they were.");
        StockPot x = new StockPot();
        Due.is("pour(0, 0)", x.pour(0, 0), 1000);
        Due.is("pour(0, 0) again", x.pour(0, 0), 0);
        Due.is("pour(11, 99999)", x.pour(11, ALL_MOST), 0);
        Due.is("pour(11, 99999) again", x.pour(11, ALL_MOST), ALL_MOST);
        Due.is("pour(11, 99998)", x.pour(11, ALL_MOST - 1), ALL_MOST);
        Due.is("pour(0, 1)", x.pour(0, 1), 0);
        Due.is("all", x.now(1), ALL_MOST);
    }

    private static void pourBeyond() {
        Due.sentence("3 BEYOND.");
        Due.range("part", 0, 11, part -> new StockPot().pour(part, 5));
        Due.range("v", 0, ALL_MOST, v -> Due.empty().pour(4, v));
    }

    private static void pourFull() {
        Due.sentence("3 FULL: ALL would be above 99999.");
        StockPot x = Due.potOf(60000);
        Due.is("one too many", x.pour(1, 40000), Due.FULL);
        Due.is("far too many", x.pour(1, ALL_MOST), Due.FULL);
        Due.amounts("FULL changes nothing", x, 60000);
        Due.is("just so many", x.pour(1, 39999), 0);
        Due.is("one more of what is there", x.pour(1, 40000), Due.FULL);
        Due.is("as many as there are", x.pour(1, 39999), 39999);
        Due.is("none of another", x.pour(2, 0), 0);
        Due.is("one of another", x.pour(2, 1), Due.FULL);
        Due.is("one fewer", x.pour(1, 39998), 39999);
        Due.is("one of another then", x.pour(2, 1), 0);
        Due.is("status(1)", x.status(1), 4);
    }

    private static void tasteOfAPart() {
        Due.sentence("4 TASTE of a PART.");
        StockPot x = Due.potOf(1, 998, 0, 0, 0, 0, 0, 0, 0, 0, 0, 1);
        Due.is("taste(0)", x.taste(0), 1);
        Due.is("taste(1)", x.taste(1), 998);
        Due.is("taste(2)", x.taste(2), 0);
        Due.is("taste(11)", x.taste(11), 1);
        x.pour(1, 999);
        Due.is("1 of 1001", x.taste(11), 0);
        Due.is("999 of 1001", x.taste(1), 998);
    }

    private static void tasteBeyond() {
        Due.sentence("4 BEYOND.");
        Due.range("taste", 0, 11, part -> new StockPot().taste(part));
        Due.range("taste of nothing", 0, 11, part -> Due.empty().taste(part));
    }

    private static void spoonLeastAndMost() {
        Due.sentence("5 A SPOON: t GRAINS (1 to 999) are TAKEN of THE POT, and gone: how many.");
        StockPot x = new StockPot();
        Due.is("spoon(1)", x.spoon(1), 1);
        Due.amounts("spoon(1)", x, 999);
        Due.is("spoon(999)", x.spoon(999), 999);
        Due.amounts("spoon(999)", x);
        Due.is("now(1)", x.now(1), 0);
        Due.is("the year stays", x.now(0), 0);
    }

    private static void spoonNoMoreThanAll() {
        Due.sentence("5 (no more than ALL)");
        for (int all = 0; all <= 2; all++) {
            StockPot x = Due.potWith(11, all);
            Due.is("spoon(1) of " + all, x.spoon(1), Math.min(all, 1));
            Due.is("left of " + all, x.now(1), Math.max(all - 1, 0));
            Due.is("spoon(999) of the rest", x.spoon(999), Math.max(all - 1, 0));
            Due.amounts("nothing left of " + all, x);
        }
        for (int all = 998; all <= 1000; all++) {
            StockPot x = Due.potWith(11, all);
            Due.is("spoon(999) of " + all, x.spoon(999), Math.min(all, 999));
            Due.is("left of " + all, x.grains(11), all == 1000 ? 1 : 0);
        }
    }

    private static void spoonBeyond() {
        Due.sentence("5 BEYOND.");
        Due.range("spoon", 1, 999, t -> new StockPot().spoon(t));
        Due.range("spoon of nothing", 1, 999, t -> Due.empty().spoon(t));
    }

    private static void spoonOfAPart() {
        Due.sentence("6 How many GRAINS of a PART a SPOON of t (1 to 999) would have");
        StockPot x = Due.potOf(0, 500, 0, 0, 0, 0, 0, 0, 0, 0, 0, 500);
        Due.is("spoonOf(1, 1)", x.spoonOf(1, 1), 1);
        Due.is("spoonOf(11, 1)", x.spoonOf(11, 1), 0);
        Due.is("spoonOf(11, 2)", x.spoonOf(11, 2), 1);
        Due.is("spoonOf(1, 999)", x.spoonOf(1, 999), 500);
        Due.is("spoonOf(11, 999)", x.spoonOf(11, 999), 499);
        Due.is("spoonOf(0, 999)", x.spoonOf(0, 999), 0);
    }

    private static void spoonOfNoMoreThanAll() {
        Due.sentence("6 a SPOON of t would have (no more than ALL)");
        StockPot x = Due.potOf(2, 3);
        Due.is("spoonOf(0, 5)", x.spoonOf(0, 5), 2);
        Due.is("spoonOf(0, 6)", x.spoonOf(0, 6), 2);
        Due.is("spoonOf(1, 999)", x.spoonOf(1, 999), 3);
        Due.is("spoonOf(2, 999)", x.spoonOf(2, 999), 0);
        for (int part = 0; part < 12; part++) {
            Due.is("of nothing, spoonOf(" + part + ", 999)", Due.empty().spoonOf(part, 999), 0);
        }
    }

    private static void spoonOfNothingChanges() {
        Due.sentence("6 (nothing changes)");
        StockPot x = Due.potOf(2, 3);
        x.spoonOf(0, 1);
        x.spoonOf(0, 999);
        Due.amounts("spoonOf", x, 2, 3);
        Due.is("now(1)", x.now(1), 5);
    }

    private static void spoonOfBeyond() {
        Due.sentence("6 BEYOND.");
        Due.range("part", 0, 11, part -> new StockPot().spoonOf(part, 1));
        Due.range("t", 1, 999, t -> new StockPot().spoonOf(0, t));
        Due.range("t of nothing", 1, 999, t -> Due.empty().spoonOf(0, t));
    }

    private static void emptyPot() {
        Due.sentence("THE POT empty");
        StockPot x = Due.empty();
        int[] now = {0, 0, -1, 0, 0, 0};
        for (int what = 0; what < 6; what++) {
            Due.is("now(" + what + ")", x.now(what), now[what]);
        }
        Due.is("count(3)", x.count(3), 12);
        Due.is("vague()", x.vague(), Due.NONE);
        Due.is("gone(0, 0)", x.gone(0, 0), 0);
        Due.is("strong(0, 0)", x.strong(0, 0), 0);
        Due.is("strong(0, 1)", x.strong(0, 1), Due.NONE);
        Due.is("best(0)", x.best(0), 1);
        Due.is("best(100)", x.best(100), 1);
        x.cook(3);
        Due.is("of(0, 4)", x.of(0, 4), 0);
        Due.is("of(0, 5)", x.of(0, 5), 0);
        Due.is("years(100) of a watery cook", x.years(100), 0);
        Due.is("kind(0, 1, 1)", x.kind(0, 1, 1), 0);
        Due.is("kind(0, 0, 60)", x.kind(0, 0, 60), 0);
        Due.is("puts(0, 60)", x.puts(0, 60), 0);
        Due.is("dull(60)", x.dull(60), 0);
        Due.is("weight(0, 0, 20, 0)", x.weight(0, 0, 20, 0), 0);
        Due.is("weight(0, 0, 20, 1)", x.weight(0, 0, 20, 1), Due.NONE);
        x.sheet(0, 8, 40);
        Due.is("book(0, 0)", x.book(0, 0), 40);
        // Watery puts nothing of nothing, statute 5 less 5, blitz part 11: the other three put part 5 if it is theirs.
        Due.is("read(0, 5, 0)", x.read(0, 5, 0), 72 - 3);
    }

    private static void fullPot() {
        Due.sentence("THE POT full");
        StockPot x = Due.potWith(0, ALL_MOST);
        int[] now = {0, ALL_MOST, -1, 1, 1, 0};
        for (int what = 0; what < 6; what++) {
            Due.is("now(" + what + ")", x.now(what), now[what]);
        }
        Due.is("count(3)", x.count(3), 11);
        Due.is("gone(0, 99999)", x.gone(0, ALL_MOST), 0);
        Due.is("gone(0, 99998)", x.gone(0, ALL_MOST - 1), Due.NONE);
        Due.is("strong(0, 1000)", x.strong(0, 1000), 0);
        Due.addCook(x, 0, 0, 999, 9);
        Due.is("years(100)", x.years(100), ALL_MOST);
        Due.is("grains(0)", x.grains(0), ALL_MOST);
        Due.is("weight(0, 0, 20, 99999)", x.weight(0, 0, 20, ALL_MOST), 0);
        Due.is("weight(0, 1, 20, 1)", x.weight(0, 1, 20, 1), Due.NONE);
        Due.is("on(0, 100, 0)", x.on(0, 100, 0), ALL_MOST);
        Due.is("on(0, 100, 1)", x.on(0, 100, 1), 1000);
        Due.is("a spoon of 999", x.spoon(999), 999);
        Due.is("left", x.now(1), ALL_MOST - 999);
    }
}
