/** Promises 25 to 27. */
public final class TextTest {
    public static void main(String[] args) {
        feed();
        wipe();
        collegeItems();
        collegeAdds();
        faults();
        faultsOfNumbers();
        faultOfANinth();
        faultOfTooMuch();
        faultChangesNothing();
        bytesOfBefore();
        fullTape();
        Due.end("TextTest");
    }

    private static void feed() {
        StockPot x = new StockPot();
        Due.is("25 n 0", x.feed(0, 0), Due.BEYOND);
        Due.is("25 n 5", x.feed(0, 5), Due.BEYOND);
        for (int wild : Due.WILD) {
            Due.is("25 n", x.feed(0, wild), Due.BEYOND);
        }
        Due.is("25 the lowest two, the highest of them first", x.feed(0x7A7A6772, 2), 2);
        Due.is("25 the lowest three", x.feed(0x7A616E64, 3), 5);
        Due.is("25 grand", x.college(), 1);
        Due.is("25 grand", x.of(0, 0), 2);
        Due.is("25 all four, below 0 too", x.feed(0xFF636F6F, 4), 4);
        Due.is("25 a byte above 127", x.college(), -1);
        Due.is("25 blank", x.feed(32, 1), 1);
        for (int n = 0; n < 29; n++) {
            x.feed(0x20202020, 4);
        }
        Due.is("25 117 bytes", x.count(1), 117);
        Due.is("25 121 would be", x.feed(0, 4), Due.FULL);
        Due.is("25 FULL changes nothing", x.count(1), 117);
        Due.is("25 BEYOND goes before FULL", x.feed(0, 5), Due.BEYOND);
        Due.is("25 120", x.feed(0, 3), 120);
        Due.is("25 121", x.feed(0, 1), Due.FULL);
        x.wipe();
        Due.is("25 anew", x.feed(0, 4), 4);
    }

    private static void wipe() {
        StockPot x = new StockPot();
        Due.is("26 nothing there", x.wipe(), 0);
        Due.lay(x, "cook");
        Due.is("26 how many it had", x.wipe(), 4);
        Due.is("26 empty", x.count(1), 0);
        Due.is("26 empty again", x.wipe(), 0);
        Due.is("26 nothing is read", x.college(), -1);
    }

    private static void collegeItems() {
        String[] names = {"cook", "frugal", "grand", "watery", "statute", "blitz"};
        StockPot x = new StockPot();
        for (int kind = 0; kind < 6; kind++) {
            Due.is("27 " + names[kind], Due.college(x, names[kind]), 1);
            int[] wanted = {kind, 1, 100, 5};
            for (int what = 0; what < 4; what++) {
                Due.is("27 " + names[kind] + " " + what, x.of(kind, what), wanted[what]);
            }
        }
        Due.is("27 the tape is empty then", x.count(1), 0);
        x = new StockPot();
        Due.is("27 all of it", Due.college(x, "blitz puts 11 weight 999 merit 9;cook puts 0 weight 0 merit 0"), 2);
        int[][] wanted = {{5, 11, 999, 9}, {0, 0, 0, 0}};
        for (int cook = 0; cook < 2; cook++) {
            for (int what = 0; what < 4; what++) {
                Due.is("27 of(" + cook + ", " + what + ")", x.of(cook, what), wanted[cook][what]);
            }
        }
        Due.is("27 one trait", Due.college(x, "cook merit 3"), 1);
        Due.is("27 one trait", x.of(2, 3), 3);
        Due.is("27 two traits", Due.college(x, "cook puts 4 merit 2"), 1);
        Due.is("27 two traits", x.of(3, 1), 4);
        Due.is("27 blanks where they may be", Due.college(x, "  cook   puts  007  ;  part 3   50  "), 2);
        Due.is("27 leading zeros", x.of(4, 1), 7);
        Due.is("27 part", x.grains(3), 50);
        Due.is("27 without blanks", Due.college(x, "frugal;cook puts2weight3merit4;part0 9999"), 3);
        Due.is("27 without blanks", x.of(6, 3), 4);
        Due.is("27 without blanks", x.grains(0), 9999);
        Due.is("27 the last part", Due.college(x, "part 11 8"), 1);
        Due.is("27 the last part", x.grains(11), 8);
    }

    private static void collegeAdds() {
        StockPot x = Due.potOf(10, 20, 30);
        x.cook(3);
        x.years(2);
        Due.is("27 to what there is", Due.college(x, "part 2 5;part 2 6;cook"), 3);
        Due.is("27 a part becomes so many", x.grains(2), 6);
        Due.is("27 the other cook stays", x.of(0, 0), 3);
        Due.is("27 two cooks", x.count(0), 2);
        Due.is("27 the year stays", x.now(0), 2);
    }

    private static void fault(String text, int place) {
        StockPot x = new StockPot();
        Due.is("27 fault of '" + text + "'", Due.college(x, text), -1 - place);
        Due.is("27 the tape is empty behind '" + text + "'", x.count(1), 0);
        Due.is("27 no finding", x.status(-1), 0);
        Due.is("27 no cook", x.count(0), 0);
        Due.amounts("27 no grain", x, 1000);
    }

    private static void faults() {
        fault("", 0);
        fault("   ", 3);
        fault("cook;", 5);
        fault("cook ;  ", 8);
        fault("cook puts", 9);
        fault("cook puts ", 10);
        fault("part", 4);
        fault("part 1", 6);
        fault(";", 0);
        fault("5", 0);
        fault("cook cook", 5);
        fault("cook 5", 5);
        fault("cook;;cook", 5);
        fault("cooks", 0);
        fault("coo", 0);
        fault("cookputs 3", 0);
        fault("xook", 0);
        fault("coox", 0);
        fault("Cook", 0);
        fault("cook Puts 3", 5);
        fault("cook\tputs 3", 4);
        fault("cook.", 4);
        fault("cook puts puts", 10);
        fault("cook puts ;", 10);
        fault("cook weight 5 puts 3", 14);
        fault("cook merit 5 weight 3", 13);
        fault("cook puts 3 puts 3", 12);
        fault("cook puts 3 part 1 1", 12);
        fault("part 1 5 puts 2", 9);
        fault("part cook 5", 5);
        fault("part 1 cook", 7);
        fault("part 1;5", 6);
        fault("part -1 5", 5);
        fault("puts 3", 0);
        fault("part 2 7;cook;part 1 5 6", 23);
        fault((char) 0 + "cook", 0);
        fault("cook" + (char) 233, 4);
    }

    private static void faultsOfNumbers() {
        fault("cook puts 12", 10);
        fault("cook weight 1000", 12);
        fault("cook merit 10", 11);
        fault("part 12 5", 5);
        fault("part 1 10000", 7);
        fault("part 1 4294967297", 7);
        fault("part 4294967297 1", 5);
        fault("cook puts 18446744073709551617 weight", 10);
        fault("cook puts 12 weight x", 10);
    }

    private static void faultOfANinth() {
        StockPot x = new StockPot();
        Due.is("27 eight", Due.college(x, "cook;cook;cook;cook;cook;cook;cook;blitz"), 8);
        Due.is("27 a ninth", Due.college(x, "part 1 5; cook puts 99"), -1 - 10);
        Due.is("27 part 1 stays", x.grains(1), 0);
        Due.is("27 a part alone", Due.college(x, "part 1 5"), 1);
        x = new StockPot();
        Due.is("27 nine at once", Due.college(x, "cook;cook;cook;cook;cook;cook;cook;cook;grand weight 5"), -1 - 40);
        Due.is("27 none came", x.count(0), 0);
        StringBuilder many = new StringBuilder("part 1 1");
        for (int n = 0; n < 12; n++) {
            many.append(";part 1 1");
        }
        Due.is("27 thirteen items", Due.college(x, many.toString()), 13);
    }

    private static void faultOfTooMuch() {
        StockPot x = Due.potOf(99999);
        Due.is("27 too much", Due.college(x, "part 1 1"), -1 - 7);
        Due.is("27 none is room enough", Due.college(x, "part 1 0"), 1);
        Due.is("27 what was there makes room", Due.college(x, "part 0 9999;part 1 9999"), 2);
        x.pour(0, 90000);
        Due.is("27 just so much", Due.college(x, "part 1 9999"), 1);
        Due.is("27 one too many of another", Due.college(x, "cook;part 2 1"), -1 - 12);
        Due.is("27 by turns", Due.college(x, "part 1 9998;part 2 1"), 2);
        Due.is("27 all", x.now(1), 99999);
    }

    private static void faultChangesNothing() {
        StockPot x = Due.potOf(1, 2);
        x.cook(1);
        Due.is("27 fault at the end", Due.college(x, "grand puts 3;part 1 77;part 0 5;cook puts"), -1 - 41);
        Due.amounts("27 no grain came", x, 1, 2);
        Due.is("27 no cook came", x.count(0), 1);
        Due.is("27 no finding", x.status(-1), 0);
        Due.is("27 the tape is empty", x.count(1), 0);
        Due.is("27 a new cook is as at first", x.cook(0), 1);
        Due.is("27 a new cook is as at first", x.of(1, 1), 1);
    }

    /** What stood on the tape before it was emptied is no part of the next text. */
    private static void bytesOfBefore() {
        String[] before = {"          ", "aaaaaaaaaa", "9999999999", ";;;;;;;;;;"};
        for (String text : before) {
            StockPot x = new StockPot();
            Due.lay(x, text);
            x.wipe();
            Due.is("27 ends too early behind '" + text + "'", Due.college(x, "cook;"), -1 - 5);
            Due.lay(x, text);
            x.wipe();
            Due.is("27 a word behind '" + text + "'", Due.college(x, "cook"), 1);
            Due.lay(x, text);
            x.wipe();
            Due.is("27 a number behind '" + text + "'", Due.college(x, "part 1 2"), 1);
            Due.is("27 a number behind '" + text + "'", x.grains(1), 2);
        }
    }

    private static void fullTape() {
        String[] last = {"cook", "cook merit 5", "part 1 2", "cook ", "part 1 2;", "cook x", "part"};
        int[] wanted = {1, 1, 1, 1, -1 - 120, -1 - 119, -1 - 120};
        for (int i = 0; i < last.length; i++) {
            String text = " ".repeat(120 - last[i].length()) + last[i];
            Due.is("27 120 bytes, at last '" + last[i] + "'", Due.college(new StockPot(), text), wanted[i]);
        }
        Due.is("27 120 letters", Due.college(new StockPot(), "a".repeat(120)), -1);
        Due.is("27 120 blanks", Due.college(new StockPot(), " ".repeat(120)), -1 - 120);
        Due.is("27 zeros", Due.college(new StockPot(), "part " + "0".repeat(113) + "7 5"), -1 - 120);
        Due.is("27 zeros", Due.college(new StockPot(), "part " + "0".repeat(112) + "7 5"), 1);
    }
}
