/** The boundary cases of promises 7 to 12, a method for each sentence. */
public final class EdgeCooksTest {
    public static void main(String[] args) {
        cookNumbers();
        cookBeyond();
        cookFull();
        ofAsIfItsTurn();
        ofPuts();
        ofBeyond();
        setWhatItWas();
        setBeyond();
        turnWhatItWas();
        turnBeyond();
        asWeight();
        asBeyond();
        asKind();
        swapTurns();
        swapBeyond();
        noCooks();
        Due.end("EdgeCooksTest");
    }

    private static StockPot cooks(int many) {
        return Due.withCooks(new StockPot(), many);
    }

    private static void cookNumbers() {
        Due.sentence("7 A new COOK: its number.");
        StockPot x = new StockPot();
        for (int n = 0; n < 8; n++) {
            Due.is("cook", x.cook(5 - n % 6), n);
            Due.is("its kind", x.of(n, 0), 5 - n % 6);
            Due.is("how many", x.count(0), n + 1);
        }
    }

    private static void cookBeyond() {
        Due.sentence("7 BEYOND: kind.");
        Due.range("kind", 0, 5, kind -> new StockPot().cook(kind));
        Due.range("kind of an eighth", 0, 5, kind -> cooks(7).cook(kind));
    }

    private static void cookFull() {
        Due.sentence("7 FULL.");
        StockPot x = cooks(7);
        Due.is("an eighth", x.cook(5), 7);
        for (int kind = 0; kind < 6; kind++) {
            Due.is("a ninth of kind " + kind, x.cook(kind), Due.FULL);
        }
        Due.is("how many", x.count(0), 8);
        Due.is("the eighth stays", x.of(7, 0), 5);
    }

    private static void ofAsIfItsTurn() {
        Due.sentence("8 all as if it were its turn this YEAR");
        StockPot x = cooks(1);
        Due.addCook(x, 4, 8, 100, 9);
        // Year 0 is the turn of cook 0, and yet cook 1 is told by its rest by 7 and by 5.
        Due.is("TAKES in year 0", x.of(1, 4), 0);
        Due.is("PUTS in year 0", x.of(1, 5), 4);
        Due.is("OF WHAT in year 0", x.of(1, 6), 3);
        x.years(1);
        Due.is("TAKES in year 1", x.of(1, 4), 50);
        Due.is("PUTS in year 1", x.of(1, 5), 54);
        Due.is("OF WHAT in year 1", x.of(1, 6), 8);
        Due.is("TAKES of the one whose turn it isn't", x.of(0, 4), 100);
    }

    private static void ofPuts() {
        Due.sentence("8 5 PUTS (when it took so many)");
        StockPot x = Due.withCooks(Due.potOf(0, 30), 1);
        Due.is("it took 30", x.of(0, 5), 35);
        x.pour(1, 99999);
        Due.is("it took 100 of a full pot", x.of(0, 5), 105);
        x.pour(1, 0);
        Due.is("it took nothing", x.of(0, 5), 5);
        Due.is("nothing changes", x.now(1), 0);
    }

    private static void ofBeyond() {
        Due.sentence("8 BEYOND.");
        Due.range("what", 0, 6, what -> cooks(1).of(0, what));
        Due.range("cook, of one", 0, 0, cook -> cooks(1).of(cook, 0));
        Due.range("cook, of eight", 0, 7, cook -> cooks(8).of(cook, 6));
    }

    private static void setWhatItWas() {
        Due.sentence("9 PART (what 1), WEIGHT (2), MERIT (3) of a COOK becomes v: what it was.");
        int[] most = {0, 11, 999, 9};
        int[] first = {0, 1, 100, 5};
        for (int what = 1; what <= 3; what++) {
            StockPot x = cooks(8);
            Due.is("the most", x.set(7, what, most[what]), first[what]);
            Due.is("the most again", x.set(7, what, most[what]), most[what]);
            Due.is("the least", x.set(7, what, 0), most[what]);
            Due.is("it became", x.of(7, what), 0);
            Due.is("the one beside it", x.of(6, what), first[what]);
            for (int other = 1; other <= 3; other++) {
                Due.is("what else it has", x.of(7, other), other == what ? 0 : first[other]);
            }
        }
    }

    private static void setBeyond() {
        Due.sentence("9 BEYOND.");
        Due.range("what", 1, 3, what -> cooks(1).set(0, what, 0));
        Due.range("cook", 0, 0, cook -> cooks(1).set(cook, 1, 0));
        Due.range("cook, of eight", 0, 7, cook -> cooks(8).set(cook, 1, 0));
        Due.range("PART", 0, 11, v -> cooks(1).set(0, 1, v));
        Due.range("WEIGHT", 0, 999, v -> cooks(1).set(0, 2, v));
        Due.range("MERIT", 0, 9, v -> cooks(1).set(0, 3, v));
    }

    private static void turnWhatItWas() {
        Due.sentence("10 A COOK becomes one of another KIND: what it was.");
        StockPot x = cooks(8);
        int was = 0;
        for (int kind : new int[] {5, 0, 1, 2, 3, 4, 4}) {
            Due.is("turn(7, " + kind + ")", x.turn(7, kind), was);
            Due.is("of(7, 0)", x.of(7, 0), kind);
            was = kind;
        }
        Due.is("the one beside it", x.of(6, 0), 0);
        Due.is("its WEIGHT", x.of(7, 2), 100);
    }

    private static void turnBeyond() {
        Due.sentence("10 BEYOND.");
        Due.range("kind", 0, 5, kind -> cooks(1).turn(0, kind));
        Due.range("cook", 0, 0, cook -> cooks(1).turn(cook, 3));
        Due.range("cook, of eight", 0, 7, cook -> cooks(8).turn(cook, 3));
    }

    private static void asWeight() {
        Due.sentence("11 A COOK as one of a kind: WEIGHT.");
        StockPot x = new StockPot();
        Due.addCook(x, 5, 1, 0, 5);
        Due.addCook(x, 4, 1, 999, 5);
        Due.is("the least", x.as(0, 2), 0);
        Due.is("the most", x.as(1, 1), 999);
        Due.is("its own kind", x.as(1, 4), 999);
        Due.is("the kind above all", x.as(1, 0), 999);
    }

    private static void asBeyond() {
        Due.sentence("11 BEYOND: no such one, kind.");
        Due.range("cook", 0, 0, cook -> cooks(1).as(cook, 0));
        Due.range("cook, of eight", 0, 7, cook -> cooks(8).as(cook, 0));
        StockPot x = cooks(1);
        Due.is("kind -1", x.as(0, -1), Due.BEYOND);
        Due.is("kind 6", x.as(0, 6), Due.BEYOND);
        Due.is("kind least", x.as(0, Integer.MIN_VALUE), Due.BEYOND);
        Due.is("kind greatest", x.as(0, Integer.MAX_VALUE), Due.BEYOND);
        Due.is("kind 5", x.as(0, 5), Due.KIND);
    }

    private static void asKind() {
        Due.sentence("11 KIND: it isn't of that kind, nor of one under it.");
        StockPot x = cooks(1);
        for (int kind = 1; kind < 6; kind++) {
            Due.is("a COOK is none of those under it, " + kind, x.as(0, kind), Due.KIND);
        }
        x.turn(0, 1);
        Due.is("FRUGAL is no STATUTE", x.as(0, 4), Due.KIND);
        Due.is("FRUGAL is no GRAND", x.as(0, 2), Due.KIND);
        x.turn(0, 2);
        Due.is("GRAND is no BLITZ", x.as(0, 5), Due.KIND);
        x.turn(0, 4);
        Due.is("STATUTE is no GRAND", x.as(0, 2), Due.KIND);
        Due.is("STATUTE is no WATERY", x.as(0, 3), Due.KIND);
        x.turn(0, 5);
        Due.is("BLITZ is no FRUGAL", x.as(0, 1), Due.KIND);
        Due.is("BLITZ is no STATUTE", x.as(0, 4), Due.KIND);
        Due.is("status(2)", x.status(2), 5 + 2 + 1 + 2 + 2);
    }

    private static void swapTurns() {
        Due.sentence("12 Two COOKS change turns (and numbers): 1.");
        StockPot x = cooks(8);
        x.turn(0, 3);
        x.set(0, 2, 999);
        x.set(7, 1, 9);
        x.set(7, 3, 0);
        Due.is("the first and the last", x.swap(0, 7), 1);
        int[] first = {0, 9, 100, 0};
        int[] last = {3, 1, 999, 5};
        for (int what = 0; what < 4; what++) {
            Due.is("of(0, " + what + ")", x.of(0, what), first[what]);
            Due.is("of(7, " + what + ")", x.of(7, what), last[what]);
        }
        x.years(1);
        Due.is("whose turn it was", x.grains(9), 100);
        Due.is("back again", x.swap(7, 0), 1);
        Due.is("of(0, 0)", x.of(0, 0), 3);
        Due.is("the year stays", x.now(0), 1);
    }

    private static void swapBeyond() {
        Due.sentence("12 BEYOND: also one and the same.");
        Due.range("cook beside 0", 1, 7, cook -> cooks(8).swap(cook, 0));
        Due.range("other beside 0", 1, 7, other -> cooks(8).swap(0, other));
        StockPot x = cooks(8);
        for (int cook = 0; cook < 8; cook++) {
            Due.is("swap(" + cook + ", " + cook + ")", x.swap(cook, cook), Due.BEYOND);
        }
        Due.is("swap(8, 8)", x.swap(8, 8), Due.BEYOND);
        Due.is("swap(-1, 0)", x.swap(-1, 0), Due.BEYOND);
        Due.is("swap(0, -1)", x.swap(0, -1), Due.BEYOND);
    }

    private static void noCooks() {
        Due.sentence("no COOKS");
        StockPot x = new StockPot();
        Due.is("of(0, 0)", x.of(0, 0), Due.BEYOND);
        Due.is("set(0, 1, 1)", x.set(0, 1, 1), Due.BEYOND);
        Due.is("turn(0, 0)", x.turn(0, 0), Due.BEYOND);
        Due.is("as(0, 0)", x.as(0, 0), Due.BEYOND);
        Due.is("swap(0, 1)", x.swap(0, 1), Due.BEYOND);
        Due.is("weight(0, 0, 1, 0)", x.weight(0, 0, 1, 0), Due.BEYOND);
        Due.is("kind(0, 0, 1)", x.kind(0, 0, 1), Due.BEYOND);
        Due.is("puts(0, 1)", x.puts(0, 1), Due.BEYOND);
        x.sheet(0, 8, 0);
        Due.is("read(0, 0, 0)", x.read(0, 0, 0), Due.BEYOND);
        Due.is("better(0, 1)", x.better(0, 1), Due.NONE);
        Due.is("dull(1)", x.dull(1), 0);
        Due.is("now(2)", x.now(2), -1);
        Due.is("count(2)", x.count(2), 0);
        x.cook(0);
        Due.is("swap(0, 1) of one", x.swap(0, 1), Due.BEYOND);
        Due.is("better(0, 1) of one", x.better(0, 1), Due.NONE);
    }
}
