import java.util.Collections;

/** The boundary cases of THE TEXT of a COLLEGE and of promises 25 to 27, a method for each sentence. */
public final class EdgeTextTest {
    private static final String EIGHT = "cook;cook;cook;cook;cook;cook;cook;cook";

    public static void main(String[] args) {
        tapeAtMost();
        tokensAsLongAsCanBe();
        words();
        numbers();
        numberAtMost();
        sign();
        blanksBetween();
        textOfItems();
        namesOfKinds();
        perhaps();
        numberOfAPart();
        numberOfAWeight();
        numberOfAMerit();
        numbersOfGrains();
        oneMoreCook();
        ifAllMayBeThat();
        faultOfTheFirstToken();
        faultOfABeginningByte();
        faultOfANinth();
        endsTooEarly();
        feedLowestBytes();
        feedBeyond();
        feedFull();
        wipe();
        collegeComesToWhatThereIs();
        collegeEmptiesTheTape();
        collegeWithAFault();
        Due.end("EdgeTextTest");
    }

    private static void reads(String text, long due) {
        Due.is("'" + text + "'", Due.college(new StockPot(), text), due);
    }

    private static void fault(String text, int place) {
        reads(text, -1 - place);
    }

    private static StockPot ofLength(int bytes) {
        StockPot x = new StockPot();
        for (int left = bytes; left > 0; left -= 4) {
            x.feed(0x20202020, Math.min(left, 4));
        }
        return x;
    }

    private static void tapeAtMost() {
        Due.sentence("THE TAPE (bytes, at most 120)");
        Due.is("119", ofLength(119).count(1), 119);
        StockPot x = ofLength(120);
        Due.is("120", x.count(1), 120);
        Due.is("121", x.feed(32, 1), Due.FULL);
        Due.is("120 still", x.count(1), 120);
        reads(" ".repeat(116) + "cook", 1);
        reads("cook" + " ".repeat(116), 1);
        fault(" ".repeat(115) + "cook;", 120);
        fault("a".repeat(120), 0);
        fault("cook;" + "9".repeat(115), 5);
        fault(";".repeat(120), 0);
    }

    private static void tokensAsLongAsCanBe() {
        Due.sentence("TOKENS, each as long as can be");
        fault("cookcook", 0);
        fault("cookputs 3", 0);
        fault("part 123", 5);
        fault("part 1 12345", 7);
        reads("part1 23", 1);
        reads("cook puts3weight4merit5;cook", 2);
        fault("part 1 1part 2 2", 8);
        fault("part12 3", 4);
        StockPot x = new StockPot();
        Due.is("'part 11 99'", Due.college(x, "part 11 99"), 1);
        Due.is("both digits of 11, and of 99", x.grains(11), 99);
    }

    private static void words() {
        Due.sentence("WORDS (letters a to z)");
        reads("watery", 1);
        reads("blitz", 1);
        fault("cook az", 5);
        fault("cook `", 5);
        fault("cook {", 5);
        fault("cook`", 4);
        fault("cook{", 4);
        fault("COOK", 0);
        fault("cooK", 0);
        fault("Z", 0);
    }

    private static void numbers() {
        Due.sentence("NUMBERS (digits)");
        for (int digit = 0; digit <= 9; digit++) {
            StockPot x = new StockPot();
            Due.is("part 1 " + digit, Due.college(x, "part 1 " + digit), 1);
            Due.is("grains(1)", x.grains(1), digit);
        }
        fault("part 1 /", 7);
        fault("part 1 :", 7);
        fault("part 1 5/", 8);
        fault("part 1 5:", 8);
        fault("part 1 -5", 7);
        fault("part 1 +5", 7);
        fault("part 1 5.0", 8);
        fault("12", 0);
    }

    private static void numberAtMost() {
        Due.sentence("NUMBERS (9999 at most)");
        StockPot x = new StockPot();
        Due.is("9998", Due.college(x, "part 1 9998"), 1);
        Due.is("9999", Due.college(x, "part 1 9999"), 1);
        Due.is("grains(1)", x.grains(1), 9999);
        Due.is("0", Due.college(x, "part 1 0"), 1);
        Due.is("grains(1)", x.grains(1), 0);
        Due.is("00009999", Due.college(x, "part 1 00009999"), 1);
        Due.is("grains(1)", x.grains(1), 9999);
        fault("part 1 10000", 7);
        fault("part 1 010000", 7);
        // 2 by 32 and by 64 times over, so that a number that wraps around would be 5.
        fault("part 1 4294967301", 7);
        fault("part 1 18446744073709551621", 7);
        fault("part 4294967297 5", 5);
        fault("cook puts 4294967297", 10);
        fault("cook weight 4294967297", 12);
        fault("cook merit 4294967297", 11);
        fault("part 1 " + "9".repeat(113), 7);
        reads("part 1 " + "0".repeat(112) + "9", 1);
    }

    private static void sign() {
        Due.sentence("SIGN ;");
        reads("cook;cook", 2);
        fault("cook:cook", 4);
        fault("cook,cook", 4);
        fault("cook<", 4);
    }

    private static void blanksBetween() {
        Due.sentence("blanks may stand between");
        reads("cook ; cook", 2);
        reads("  cook", 1);
        reads("cook  ", 1);
        reads("part    1     5  ;   part   2   6", 2);
        reads("cook;cook", 2);
        fault("co ok", 0);
        fault("part 1 5 5", 9);
        fault("cook !", 5);
        int[] noBlanks = {0, 9, 10, 11, 12, 13, 31, 33, 127, 128, 133, 160, 255};
        for (int b : noBlanks) {
            Due.is("byte " + b + " between", Due.college(new StockPot(), "cook" + (char) b + ";cook"), -1 - 4);
        }
    }

    private static void textOfItems() {
        Due.sentence("TEXT: ITEM { ; ITEM }.");
        fault("", 0);
        reads("cook", 1);
        reads(EIGHT, 8);
        fault(";", 0);
        fault(";cook", 0);
        fault("cook;;cook", 5);
        fault("cook; ;cook", 6);
        fault("cook cook", 5);
        fault("cook part 1 1", 5);
        fault("part 1 1 cook", 9);
        fault("part 1 1 part 1 1", 9);
        reads(String.join(";", Collections.nCopies(15, "part1 1")), 15);
    }

    private static void namesOfKinds() {
        Due.sentence("the name of a KIND (cook frugal grand watery statute blitz)");
        String[] names = {"cook", "frugal", "grand", "watery", "statute", "blitz"};
        for (int kind = 0; kind < 6; kind++) {
            StockPot x = new StockPot();
            Due.is(names[kind], Due.college(x, names[kind]), 1);
            Due.is(names[kind], x.of(0, 0), kind);
            fault(names[kind] + "s", 0);
            fault(names[kind].substring(1), 0);
            fault(names[kind].substring(0, names[kind].length() - 1), 0);
            fault("a" + names[kind], 0);
            for (int i = 0; i < names[kind].length(); i++) {
                fault(names[kind].substring(0, i) + "x" + names[kind].substring(i + 1), 0);
            }
        }
        fault("puts 1", 0);
        fault("weight 1", 0);
        fault("merit 1", 0);
        fault("parts 1 1", 0);
        fault("par 1 1", 0);
    }

    private static void perhaps() {
        Due.sentence("perhaps puts and a NUMBER, perhaps weight and a NUMBER, perhaps merit and a NUMBER");
        for (int set = 0; set < 8; set++) {
            StockPot x = new StockPot();
            String text = "grand" + ((set & 1) > 0 ? " puts 11" : "") + ((set & 2) > 0 ? " weight 999" : "")
                + ((set & 4) > 0 ? " merit 9" : "");
            Due.is(text, Due.college(x, text), 1);
            Due.is(text + ", PART", x.of(0, 1), (set & 1) > 0 ? 11 : 1);
            Due.is(text + ", WEIGHT", x.of(0, 2), (set & 2) > 0 ? 999 : 100);
            Due.is(text + ", MERIT", x.of(0, 3), (set & 4) > 0 ? 9 : 5);
        }
        fault("cook weight 1 puts 1", 14);
        fault("cook merit 1 weight 1", 13);
        fault("cook merit 1 puts 1", 13);
        fault("cook puts 1 puts 1", 12);
        fault("cook weight 1 weight 1", 14);
        fault("cook merit 1 merit 1", 13);
        fault("cook puts puts", 10);
        fault("cook puts ;", 10);
        fault("cook puts x", 10);
        fault("cook weight merit 1", 12);
        fault("cook merit ;cook", 11);
        fault("cook put 1", 5);
        fault("cook weights 1", 5);
        fault("cook merits 1", 5);
        fault("cook 1", 5);
    }

    private static void numberOfAPart() {
        Due.sentence("puts and a NUMBER (a PART)");
        reads("cook puts 0", 1);
        reads("cook puts 11", 1);
        fault("cook puts 12", 10);
        fault("cook puts 9999", 10);
        fault("cook puts 10000", 10);
    }

    private static void numberOfAWeight() {
        Due.sentence("weight and a NUMBER (0 to 999)");
        reads("cook weight 0", 1);
        reads("cook weight 999", 1);
        fault("cook weight 1000", 12);
        fault("cook weight 9999", 12);
        fault("cook puts 1 weight 1000 merit 99", 19);
    }

    private static void numberOfAMerit() {
        Due.sentence("merit and a NUMBER (0 to 9)");
        reads("cook merit 0", 1);
        reads("cook merit 9", 1);
        fault("cook merit 10", 11);
        fault("cook puts 1 weight 1 merit 10", 27);
    }

    private static void numbersOfGrains() {
        Due.sentence("part, a NUMBER (0 to 11), a NUMBER (0 to 9999): its GRAINS become so many");
        StockPot x = new StockPot();
        Due.is("part 0 0", Due.college(x, "part 0 0"), 1);
        Due.amounts("part 0 0", x);
        Due.is("part 11 9999", Due.college(x, "part 11 9999"), 1);
        Due.amounts("part 11 9999", x, 0, 0, 0, 0, 0, 0, 0, 0, 0, 0, 0, 9999);
        Due.is("twice", Due.college(x, "part 11 8;part 11 7"), 2);
        Due.is("the later one", x.grains(11), 7);
        fault("part 12 5", 5);
        fault("part 12 10000", 5);
        fault("part 11 10000", 8);
        fault("part cook 5", 5);
        fault("part 5 cook", 7);
        fault("part 5;cook", 6);
        fault("part;5 5", 4);
        fault("part 5 5 5", 9);
        fault("part 5 5 merit 5", 9);
    }

    private static void oneMoreCook() {
        Due.sentence("one more COOK");
        StockPot x = new StockPot();
        x.cook(3);
        Due.is("two more", Due.college(x, "grand;blitz merit 0"), 2);
        Due.is("how many", x.count(0), 3);
        Due.is("the one that was there", x.of(0, 0), 3);
        Due.is("grand", x.of(1, 0), 2);
        Due.is("blitz", x.of(2, 0), 5);
        Due.is("its merit", x.of(2, 3), 0);
        x = Due.withCooks(new StockPot(), 7);
        Due.is("an eighth", Due.college(x, "statute"), 1);
        Due.is("of(7, 0)", x.of(7, 0), 4);
    }

    private static void ifAllMayBeThat() {
        Due.sentence("(if ALL may be that; else the last NUMBER is the FAULT)");
        StockPot x = Due.potOf(90000);
        Due.is("just 99999", Due.college(x, "part 1 9999"), 1);
        Due.is("100000", Due.college(x, "part 2 1"), -1 - 7);
        Due.is("as it is", Due.college(x, "part 1 9999;part 2 0"), 2);
        Due.is("one given up for one", Due.college(x, "part 1 9998;part 2 1"), 2);
        Due.is("one too many ahead of it", Due.college(x, "part 2 2;part 1 0"), -1 - 7);
        Due.is("in the second item", Due.college(x, "cook;part  2  2;cook puts 12"), -1 - 14);
        Due.amounts("nothing of these came", x, 90000, 9998, 1);
        Due.is("a great part made small", Due.college(x, "part 0 9999;part 3 9999"), 2);
        Due.is("now(1)", x.now(1), 9999 + 9998 + 1 + 9999);
    }

    private static void faultOfTheFirstToken() {
        Due.sentence("FAULT: the place (from 0) of the first byte of the first TOKEN that can't stand there");
        fault("x", 0);
        fault("  x", 2);
        fault("cook x", 5);
        fault("cook  xyz 5", 6);
        fault("cook puts 99 merit 99", 10);
        fault("cook;part 99 99999", 10);
        fault("part 1 99999;x", 7);
        fault("cook merit 9;part 11 9999 7", 26);
        fault("cook " + " ".repeat(114) + "x", 119);
    }

    private static void faultOfABeginningByte() {
        Due.sentence("FAULT: a byte that begins no TOKEN");
        for (int b = 0; b < 256; b++) {
            boolean isLetter = b >= 'a' && b <= 'z';
            boolean isDigit = b >= '0' && b <= '9';
            Due.is("byte " + b + " alone", Due.college(new StockPot(), "" + (char) b), b == ' ' ? -1 - 1 : -1);
            int behind = isLetter ? -1 : b == ' ' ? 1 : b == ';' ? -1 - 5 : -1 - 4;
            Due.is("byte " + b + " behind cook", Due.college(new StockPot(), "cook" + (char) b), behind);
            int more = isDigit || b == ' ' ? 1 : b == ';' ? -1 - 9 : -1 - 8;
            Due.is("byte " + b + " behind a number", Due.college(new StockPot(), "part 1 5" + (char) b), more);
        }
    }

    private static void faultOfANinth() {
        Due.sentence("FAULT: the name of a KIND for a 9th: its own");
        reads(EIGHT, 8);
        reads(EIGHT + ";part 1 5", 9);
        fault(EIGHT + ";cook", 40);
        fault(EIGHT + " ;  blitz puts 99", 43);
        fault(EIGHT + ";cookx", 40);
        StockPot x = Due.withCooks(new StockPot(), 7);
        Due.is("an eighth and a ninth", Due.college(x, "cook;grand"), -1 - 5);
        Due.is("none of them came", x.count(0), 7);
        Due.is("an eighth", Due.college(x, "cook puts 3"), 1);
        Due.is("a ninth", Due.college(x, "cook puts 3"), -1);
        Due.is("a part with eight", Due.college(x, "part 3 3"), 1);
    }

    private static void endsTooEarly() {
        Due.sentence("FAULT: or how many bytes there are if it ends too early");
        String text = "grand puts 4 weight 200 merit 7;part 3 50";
        int[] due = {
            -1, -1, -1, -1, -1, 1, 1, -7, -7, -7, -11, -12, 1, 1,
            -14, -14, -14, -14, -14, -20, -21, 1, 1, 1, 1,
            -25, -25, -25, -25, -30, -31, 1, -33,
            -33, -33, -33, -37, -38, -39, -40, 2, 2,
        };
        for (int length = 0; length <= text.length(); length++) {
            reads(text.substring(0, length), due[length]);
        }
        fault(" ", 1);
        fault(" ".repeat(120), 120);
        fault("cook;  ", 7);
        fault("part  ", 6);
        fault("part 1  ", 8);
    }

    private static void feedLowestBytes() {
        Due.sentence("25 the n lowest bytes of a number behind it, the highest of these first: how many it has");
        StockPot x = new StockPot();
        Due.is("four: cook", x.feed(0x636F6F6B, 4), 4);
        Due.is("one of four: ;", x.feed(0xFFFFFF3B, 1), 5);
        Due.is("three of four: gra", x.feed(0xFF677261, 3), 8);
        Due.is("two of four: nd", x.feed(0x80006E64, 2), 10);
        Due.is("cook;grand", x.college(), 2);
        Due.is("cook", x.of(0, 0), 0);
        Due.is("grand", x.of(1, 0), 2);
        Due.is("four of a number below 0", x.feed(0xE3203B20, 4), 4);
        Due.is("a byte above 127 first", x.college(), -1);
        x.feed(0x2020E320, 4);
        Due.is("a byte above 127 third", x.college(), -1 - 2);
        x.feed(Integer.MIN_VALUE, 4);
        Due.is("the least number", x.college(), -1);
        x.feed(Integer.MIN_VALUE, 3);
        Due.is("three bytes of it are 0", x.college(), -1);
        Due.is("status(-1)", x.status(-1), 0);
    }

    private static void feedBeyond() {
        Due.sentence("25 (n 1 to 4) BEYOND: n.");
        Due.range("n", 1, 4, n -> new StockPot().feed(0x20202020, n));
        Due.range("n, with four bytes left", 1, 4, n -> ofLength(116).feed(0x20202020, n));
    }

    private static void feedFull() {
        Due.sentence("25 FULL.");
        for (int n = 1; n <= 4; n++) {
            StockPot x = ofLength(120 - n);
            Due.is("just " + n + " left", x.feed(0x20202020, n), 120);
            x = ofLength(121 - n);
            Due.is("one fewer than " + n + " left", x.feed(0x20202020, n), Due.FULL);
            Due.is("none of them came", x.count(1), 121 - n);
            Due.is("a full tape", ofLength(120).feed(0, n), Due.FULL);
        }
        StockPot x = ofLength(117);
        Due.is("four are too many", x.feed(0x636F6F6B, 4), Due.FULL);
        Due.is("three blanks", x.feed(0x202020, 3), 120);
        Due.is("nothing but blanks is there", x.college(), -1 - 120);
    }

    private static void wipe() {
        Due.sentence("26 THE TAPE is empty: how many it had.");
        StockPot x = ofLength(120);
        Due.is("120", x.wipe(), 120);
        Due.is("none", x.wipe(), 0);
        Due.is("count(1)", x.count(1), 0);
        Due.is("a first byte again", x.feed(32, 1), 1);
        Due.is("one", x.wipe(), 1);
        Due.is("room for all again", Due.college(x, " ".repeat(116) + "cook"), 1);
    }

    private static void collegeComesToWhatThereIs() {
        Due.sentence("27 ITEMS come to what there is: how many ITEMS.");
        StockPot x = Due.potOf(5, 6, 7);
        x.cook(1);
        x.years(8);
        int before = x.grains(0);
        Due.is("three items", Due.college(x, "part 11 4;cook;part 2 0"), 3);
        Due.is("grains(0) stay", x.grains(0), before);
        Due.is("grains(2)", x.grains(2), 0);
        Due.is("grains(11)", x.grains(11), 4);
        Due.is("cooks", x.count(0), 2);
        Due.is("the year stays", x.now(0), 8);
        Due.is("whose turn it is", x.now(2), 0);
    }

    private static void collegeEmptiesTheTape() {
        Due.sentence("27 and empty then");
        StockPot x = new StockPot();
        Due.college(x, "cook");
        Due.is("behind a text", x.count(1), 0);
        Due.is("nothing to read again", x.college(), -1);
        Due.college(x, "cook cook");
        Due.is("behind a fault", x.count(1), 0);
        Due.is("an empty one", x.college(), -1);
        Due.is("empty still", x.count(1), 0);
        Due.is("one cook came", x.count(0), 1);
    }

    private static void collegeWithAFault() {
        Due.sentence("27 With a FAULT: -1 less its place (nothing changes but that THE TAPE is empty; no finding).");
        StockPot x = Due.potOf(5, 6, 7);
        Due.addCook(x, 4, 8, 7, 6);
        x.image();
        x.pour(3, 9);
        x.sheet(0, 8, 1);
        x.write(0, 0, 5);
        Due.is("place 0", Due.college(x, "x"), -1);
        Due.is("the last place", Due.college(x, "part 0 1;cook" + " ".repeat(106) + "x"), -1 - 119);
        Due.is("behind the last", Due.college(x, "part 1 1;grand" + " ".repeat(105) + ";"), -1 - 120);
        Due.amounts("the pot", x, 5, 6, 7, 9);
        Due.is("cooks", x.count(0), 1);
        Due.is("its kind", x.of(0, 0), 4);
        Due.is("its part", x.of(0, 1), 8);
        Due.is("the sheet", x.write(0, 0, 5), 5);
        Due.is("findings", x.status(-1), 0);
        Due.is("the image", x.undo(), 1);
        Due.amounts("the image", x, 5, 6, 7);
    }
}
