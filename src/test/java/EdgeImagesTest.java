/** The boundary cases of promises 34 to 38, a method for each sentence. */
public final class EdgeImagesTest {
    public static void main(String[] args) {
        imageOfAll();
        imageNotOfTheRest();
        undoToTheLatest();
        undoStays();
        undoNone();
        tear();
        countCooks();
        countBytes();
        countWeights();
        countParts();
        countBeyond();
        statusOfEach();
        statusOfAll();
        statusAfterUndo();
        statusBeyond();
        lastCalls();
        Due.end("EdgeImagesTest");
    }

    private static void imageOfAll() {
        Due.sentence("34 All that section 1 tells is kept: 1.");
        StockPot x = Due.inYear(Due.potWith(11, 99999), 9999);
        for (int cook = 0; cook < 8; cook++) {
            Due.addCook(x, 5 - cook % 6, 11 - cook, 999 - cook, 9 - cook);
        }
        Due.is("image()", x.image(), 1);
        x.pour(11, 0);
        x.pour(3, 5);
        for (int cook = 0; cook < 8; cook++) {
            x.turn(cook, cook % 6);
            x.set(cook, 1, 0);
            x.set(cook, 2, 0);
            x.set(cook, 3, 0);
        }
        Due.is("undo()", x.undo(), 8);
        Due.amounts("the pot", x, 0, 0, 0, 0, 0, 0, 0, 0, 0, 0, 0, 99999);
        Due.is("ALL", x.now(1), 99999);
        Due.is("the year", x.now(0), 9999);
        for (int cook = 0; cook < 8; cook++) {
            Due.is("KIND of " + cook, x.of(cook, 0), 5 - cook % 6);
            Due.is("PART of " + cook, x.of(cook, 1), 11 - cook);
            Due.is("WEIGHT of " + cook, x.of(cook, 2), 999 - cook);
            Due.is("MERIT of " + cook, x.of(cook, 3), 9 - cook);
        }
    }

    private static void imageNotOfTheRest() {
        Due.sentence("34 (THE TAPE not)");
        StockPot x = new StockPot();
        Due.lay(x, "cook");
        x.sheet(0, 8, 2);
        x.write(0, 1, 5);
        x.image();
        Due.lay(x, ";grand");
        x.write(0, 1, 6);
        x.sheet(1, 64, 1);
        x.undo();
        Due.is("bytes that came behind it", x.count(1), 10);
        Due.is("a number that came behind it", x.write(0, 1, 0), 6);
        Due.is("a sheet that came behind it", x.write(1, 0, 0), 0);
        Due.is("the text of both", x.college(), 2);
        x.image();
        Due.lay(x, "cook");
        x.wipe();
        x.sheet(1, 0, 0);
        x.undo();
        Due.is("no bytes come back", x.count(1), 0);
        Due.is("no sheet comes back", x.write(1, 0, 0), Due.MISSING);
    }

    private static void undoToTheLatest() {
        Due.sentence("35 It becomes what was kept latest: how many COOKS.");
        StockPot x = new StockPot();
        x.image();
        Due.withCooks(x, 8);
        Due.is("to none", x.undo(), 0);
        Due.is("of(0, 0)", x.of(0, 0), Due.BEYOND);
        Due.is("a first one again", x.cook(0), 0);
        Due.withCooks(x, 7);
        x.image();
        x.years(3);
        Due.is("to eight", x.undo(), 8);
        Due.is("now(0)", x.now(0), 0);
        Due.is("a ninth", x.cook(0), Due.FULL);
        x.pour(5, 1);
        x.image();
        x.pour(5, 2);
        x.image();
        x.pour(5, 3);
        x.undo();
        Due.is("of several the latest", x.grains(5), 2);
    }

    private static void undoStays() {
        Due.sentence("35 (which stays)");
        StockPot x = new StockPot();
        x.pour(7, 4);
        x.image();
        for (int n = 0; n < 3; n++) {
            x.cook(n);
            x.pour(7, 5 + n);
            x.years(n + 1);
            Due.is("undo() " + n, x.undo(), 0);
            Due.is("grains(7)", x.grains(7), 4);
            Due.is("now(0)", x.now(0), 0);
        }
        Due.is("undo() of nothing new", x.undo(), 0);
        Due.is("tear()", x.tear(), 1);
    }

    private static void undoNone() {
        Due.sentence("35 NONE: nothing is kept.");
        StockPot x = new StockPot();
        x.pour(7, 4);
        Due.is("at first", x.undo(), Due.NONE);
        x.image();
        x.tear();
        Due.is("behind tear()", x.undo(), Due.NONE);
        Due.is("nothing changes", x.grains(7), 4);
        Due.is("status(3)", x.status(3), 2);
    }

    private static void tear() {
        Due.sentence("36 Nothing is kept: 1 if something was, else 0.");
        StockPot x = new StockPot();
        Due.is("at first", x.tear(), 0);
        x.image();
        x.image();
        Due.is("behind two images", x.tear(), 1);
        Due.is("nothing of the first is left", x.tear(), 0);
        Due.is("undo()", x.undo(), Due.NONE);
        x.image();
        x.undo();
        Due.is("behind undo()", x.tear(), 1);
        Due.is("findings", x.status(-1), 1);
    }

    private static void countCooks() {
        Due.sentence("37 0 COOKS");
        StockPot x = new StockPot();
        for (int many = 0; many <= 8; many++) {
            Due.is("count(0)", x.count(0), many);
            x.cook(0);
        }
        Due.is("count(0) behind a ninth", x.count(0), 8);
    }

    private static void countBytes() {
        Due.sentence("37 1 bytes of THE TAPE");
        StockPot x = new StockPot();
        for (int n = 0; n < 120; n++) {
            Due.is("count(1)", x.count(1), n);
            x.feed(32, 1);
        }
        Due.is("count(1)", x.count(1), 120);
        x.feed(32, 1);
        Due.is("count(1) behind one more", x.count(1), 120);
    }

    private static void countWeights() {
        Due.sentence("37 2 WEIGHTS of all together");
        StockPot x = new StockPot();
        Due.is("none", x.count(2), 0);
        for (int cook = 0; cook < 8; cook++) {
            x.cook(5);
            Due.is("at first", x.count(2), 999 * cook + 100);
            x.set(cook, 2, 999);
        }
        Due.is("the most", x.count(2), 8 * 999);
        for (int cook = 0; cook < 8; cook++) {
            x.set(cook, 2, 0);
        }
        Due.is("the least", x.count(2), 0);
    }

    private static void countParts() {
        Due.sentence("37 3 PARTS without GRAINS");
        Due.is("at first", new StockPot().count(3), 11);
        StockPot x = Due.empty();
        for (int part = 0; part < 12; part++) {
            Due.is("count(3)", x.count(3), 12 - part);
            x.pour(part, 1);
        }
        Due.is("none", x.count(3), 0);
    }

    private static void countBeyond() {
        Due.sentence("37 BEYOND: another what.");
        Due.range("count", 0, 3, what -> new StockPot().count(what));
    }

    /** Acts of each finding, one more of each: 1 BEYOND, 2 FULL, 3 KIND, 4 NONE, 5 STATE, 6 MISSING, 7 SIZE. */
    private static StockPot withFindings() {
        StockPot x = Due.inYear(new StockPot(), 9999);
        x.cook(0);
        for (int n = 0; n < 7; n++) {
            if (n >= 6) {
                x.grains(12);
            }
            if (n >= 5) {
                x.pour(1, 99999);
            }
            if (n >= 4) {
                x.as(0, 1);
            }
            if (n >= 3) {
                x.undo();
            }
            if (n >= 2) {
                x.years(1);
            }
            if (n >= 1) {
                x.write(0, 0, 0);
            }
            x.sheet(0, 0, -1);
        }
        return x;
    }

    private static void statusOfEach() {
        Due.sentence("38 How many acts answered a finding ever: which 0 to 6: BEYOND to SIZE.");
        StockPot x = withFindings();
        for (int which = 0; which < 7; which++) {
            Due.is("status(" + which + ")", x.status(which), which + 1);
        }
        Due.is("asking is no finding", x.status(0), 1);
        StockPot y = new StockPot();
        for (int which = -1; which < 7; which++) {
            Due.is("at first, status(" + which + ")", y.status(which), 0);
        }
    }

    private static void statusOfAll() {
        Due.sentence("38 which -1: all");
        Due.is("status(-1)", withFindings().status(-1), 28);
        StockPot x = new StockPot();
        for (int n = 0; n < 510; n++) {
            x.grains(12);
        }
        Due.is("status(-1) behind 510", x.status(-1), 510);
        Due.is("status(0) behind 510", x.status(0), 510);
    }

    private static void statusAfterUndo() {
        Due.sentence("38 (undo() takes none back)");
        StockPot x = new StockPot();
        x.grains(12);
        x.image();
        x.grains(12);
        x.undo();
        Due.is("status(0)", x.status(0), 2);
        x.tear();
        x.undo();
        Due.is("status(-1)", x.status(-1), 3);
    }

    private static void statusBeyond() {
        Due.sentence("38 BEYOND (counted from then on): another one.");
        Due.range("status", -1, 6, which -> new StockPot().status(which));
        StockPot x = new StockPot();
        Due.is("status(7)", x.status(7), Due.BEYOND);
        Due.is("counted", x.status(0), 1);
        Due.is("counted among all", x.status(-1), 1);
        Due.is("status(-2)", x.status(-2), Due.BEYOND);
        Due.is("counted", x.status(0), 2);
        Due.is("no other finding", x.status(6), 0);
    }

    private static void lastCalls() {
        Due.sentence("An object is used for at most 512 calls after it has been made");
        StockPot x = new StockPot();
        Due.addCook(x, 0, 1, 0, 1);
        for (int n = 4; n < 511; n++) {
            x.years(1);
        }
        Due.is("the 512th call", x.years(1), 1000 + 508);
    }
}
