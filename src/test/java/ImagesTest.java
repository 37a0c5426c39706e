/** Promises 34 to 38. */
public final class ImagesTest {
    public static void main(String[] args) {
        image();
        undoLeavesTapeAndSheets();
        tear();
        count();
        status();
        Due.end("ImagesTest");
    }

    private static void change(StockPot x) {
        x.pour(5, 1);
        x.set(0, 1, 9);
        x.set(0, 2, 9);
        x.set(0, 3, 9);
        x.turn(1, 0);
        x.cook(4);
        x.years(3);
    }

    private static void isAsKept(StockPot x) {
        Due.is("35 cooks", x.count(0), 2);
        Due.is("35 year", x.now(0), 2);
        Due.is("35 all", x.now(1), 64);
        Due.amounts("35 grains", x, 64);
        int[][] wanted = {{0, 0, 1, 2}, {3, 0, 1, 2}};
        for (int cook = 0; cook < 2; cook++) {
            for (int what = 0; what < 4; what++) {
                Due.is("35 of(" + cook + ", " + what + ")", x.of(cook, what), wanted[cook][what]);
            }
        }
    }

    private static void image() {
        StockPot x = Due.potOf(62);
        x.cook(0);
        x.cook(3);
        for (int cook = 0; cook < 2; cook++) {
            x.set(cook, 1, 0);
            x.set(cook, 2, 1);
            x.set(cook, 3, 2);
        }
        Due.is("35 nothing is kept", x.undo(), Due.NONE);
        x.years(2);
        Due.is("34 image()", x.image(), 1);
        change(x);
        Due.is("35 undo()", x.undo(), 2);
        isAsKept(x);
        change(x);
        Due.is("35 it stays kept", x.undo(), 2);
        isAsKept(x);
        x.cook(5);
        Due.is("34 image() again", x.image(), 1);
        x.cook(5);
        Due.is("35 the latest", x.undo(), 3);
    }

    private static void undoLeavesTapeAndSheets() {
        StockPot x = new StockPot();
        x.image();
        Due.lay(x, "cook");
        x.sheet(0, 8, 1);
        x.write(0, 0, 5);
        x.grains(12);
        x.undo();
        Due.is("34 not the tape", x.count(1), 4);
        Due.is("34 nor sheets", x.write(0, 0, 0), 5);
        Due.is("38 nor findings", x.status(-1), 1);
    }

    private static void tear() {
        StockPot x = new StockPot();
        Due.is("36 nothing was", x.tear(), 0);
        x.image();
        x.pour(3, 3);
        Due.is("36 something was", x.tear(), 1);
        Due.is("36 nothing is now", x.tear(), 0);
        Due.is("36 undo()", x.undo(), Due.NONE);
        Due.is("36 the pot stays", x.grains(3), 3);
        x.image();
        x.pour(3, 4);
        Due.is("36 kept anew", x.undo(), 0);
        Due.is("36 kept anew", x.grains(3), 3);
    }

    private static void count() {
        StockPot x = Due.potOf(0, 3, 0, 4);
        Due.is("37 no cooks", x.count(0), 0);
        Due.is("37 no weights", x.count(2), 0);
        Due.is("37 parts without grains", x.count(3), 10);
        Due.is("37 all parts", Due.potOf(0).count(3), 12);
        Due.is("37 no part", Due.potOf(1, 1, 1, 1, 1, 1, 1, 1, 1, 1, 1, 1).count(3), 0);
        for (int cook = 0; cook < 8; cook++) {
            x.cook(0);
            x.set(cook, 2, 990 + cook);
        }
        Due.lay(x, "abc");
        Due.is("37 cooks", x.count(0), 8);
        Due.is("37 bytes", x.count(1), 3);
        Due.is("37 weights", x.count(2), 7948);
        Due.is("37 what 4", x.count(4), Due.BEYOND);
        for (int wild : Due.WILD) {
            Due.is("37 what", x.count(wild), Due.BEYOND);
        }
    }

    private static void status() {
        StockPot x = new StockPot();
        x.pour(1, 99999);
        x.pour(1, 99999);
        x.pour(0, 1);
        x.pour(0, 99999);
        x.pour(1, 1);
        x.cook(0);
        x.as(0, 1);
        x.undo();
        x.tear();
        for (int n = 0; n < 100; n++) {
            x.years(100);
        }
        x.lays(0);
        x.sheet(0, 8, -1);
        x.sheet(0, 8, -1);
        x.college();
        int[] wanted = {0, 3, 1, 1, 1, 1, 2};
        for (int which = 0; which < 7; which++) {
            Due.is("38 status(" + which + ")", x.status(which), wanted[which]);
        }
        Due.is("38 all", x.status(-1), 9);
        Due.is("38 another one", x.status(7), Due.BEYOND);
        Due.is("38 another one", x.status(-2), Due.BEYOND);
        Due.is("38 counted from then on", x.status(0), 2);
        Due.is("38 all", x.status(-1), 11);
        Due.is("38 greatest", x.status(Integer.MAX_VALUE), Due.BEYOND);
        Due.is("38 least", x.status(Integer.MIN_VALUE), Due.BEYOND);
        Due.is("38 in a long too", x.write(0, 0, 0), Due.MISSING);
        Due.is("38 of a long too", x.status(5), 2);
    }
}
