/** The boundary cases of promises 28 to 33, a method for each sentence. */
public final class EdgeSheetsTest {
    private static final int[] WIDTHS = {8, 16, 64};

    public static void main(String[] args) {
        sheetHasNumbers();
        sheetMissing();
        sheetBeyondSheetAndBits();
        sheetSize();
        sheetBeyondNumbers();
        writeLowestBits();
        writeBeyondSheet();
        writeMissing();
        writeBeyondNumber();
        copyNumbers();
        copyAsTheyAllWere();
        copyOfNone();
        copyBeyondSheet();
        copyMissing();
        copyKind();
        copyBeyondNumbers();
        laysOneByOne();
        laysBelowNought();
        laysAboveAll();
        laysForNone();
        laysFindings();
        bookByYears();
        bookFindings();
        readPairs();
        readOfNoNumbers();
        readWholeNumbers();
        readFindings();
        Due.end("EdgeSheetsTest");
    }

    private static StockPot withSheet(int bits, long... numbers) {
        StockPot x = new StockPot();
        fill(x, 0, bits, numbers);
        return x;
    }

    private static void fill(StockPot x, int s, int bits, long... numbers) {
        x.sheet(s, bits, numbers.length);
        for (int i = 0; i < numbers.length; i++) {
            x.write(s, i, numbers[i]);
        }
    }

    private static void numbers(String call, StockPot x, int s, long... due) {
        for (int i = 0; i < due.length; i++) {
            long was = x.write(s, i, 0);
            Due.is(call + ", number " + i, was, due[i]);
            x.write(s, i, was);
        }
        Due.is(call + ", behind the last", x.write(s, due.length, 0), Due.BEYOND);
    }

    private static void sheetHasNumbers() {
        Due.sentence("28 A sheet has n numbers, all 0, of 8, 16 or 64 bits: n");
        for (int bits : WIDTHS) {
            StockPot x = new StockPot();
            Due.is("none", x.sheet(3, bits, 0), 0);
            numbers("none", x, 3);
            Due.is("one", x.sheet(3, bits, 1), 1);
            numbers("one", x, 3, 0);
            Due.is("forty", x.sheet(3, bits, 40), 40);
            numbers("forty", x, 3, new long[40]);
            for (int i = 0; i < 40; i++) {
                x.write(3, i, 5);
            }
            Due.is("forty anew", x.sheet(3, bits, 40), 40);
            numbers("all 0 again", x, 3, new long[40]);
            x.write(3, 39, 5);
            x.sheet(3, bits, 2);
            x.sheet(3, bits, 40);
            Due.is("0 behind a short one, too", x.write(3, 39, 0), 0);
        }
    }

    private static void sheetMissing() {
        Due.sentence("28 bits 0: it is MISSING: n (0 if it is MISSING)");
        for (int n : new int[] {0, 1, 40}) {
            StockPot x = withSheet(8, 1, 2, 3);
            Due.is("sheet(0, 0, " + n + ")", x.sheet(0, 0, n), 0);
            Due.is("it is MISSING", x.write(0, 0, 0), Due.MISSING);
            Due.is("once more", x.sheet(0, 0, n), 0);
            Due.is("there again", x.sheet(0, 8, 3), 3);
            numbers("all 0", x, 0, 0, 0, 0);
        }
        StockPot x = new StockPot();
        x.sheet(1, 8, 0);
        Due.is("no numbers are not MISSING", x.lays(1), 0);
    }

    private static void sheetBeyondSheetAndBits() {
        Due.sentence("28 BEYOND: no such sheet, other bits.");
        Due.range("s", 0, 3, s -> new StockPot().sheet(s, 8, 1));
        int[] others = {-64, -8, -1, 1, 7, 9, 15, 17, 24, 32, 63, 65, 128, Integer.MIN_VALUE, Integer.MAX_VALUE};
        for (int bits : others) {
            Due.is("bits " + bits, new StockPot().sheet(0, bits, 1), Due.BEYOND);
        }
        for (int bits : WIDTHS) {
            Due.is("bits " + bits, new StockPot().sheet(0, bits, 1), 1);
        }
        Due.is("bits 0", new StockPot().sheet(0, 0, 1), 0);
    }

    private static void sheetSize() {
        Due.sentence("28 SIZE: n is below 0 (also with bits 0).");
        for (int bits : new int[] {0, 8, 16, 64}) {
            StockPot x = withSheet(16, 7, 8);
            Due.is("n -1, bits " + bits, x.sheet(0, bits, -1), Due.SIZE);
            Due.is("n least, bits " + bits, x.sheet(0, bits, Integer.MIN_VALUE), Due.SIZE);
            numbers("the sheet stays, bits " + bits, x, 0, 7, 8);
            Due.is("n 0, bits " + bits, x.sheet(0, bits, 0), 0);
        }
        Due.is("ahead of it: no such sheet", new StockPot().sheet(4, 8, -1), Due.BEYOND);
        Due.is("ahead of it: other bits", new StockPot().sheet(0, 1, -1), Due.BEYOND);
    }

    private static void sheetBeyondNumbers() {
        Due.sentence("28 BEYOND: n is above 40 (also with bits 0).");
        for (int bits : new int[] {0, 8, 16, 64}) {
            StockPot x = withSheet(16, 7, 8);
            Due.is("n 41, bits " + bits, x.sheet(0, bits, 41), Due.BEYOND);
            Due.is("n greatest, bits " + bits, x.sheet(0, bits, Integer.MAX_VALUE), Due.BEYOND);
            numbers("the sheet stays, bits " + bits, x, 0, 7, 8);
            Due.is("n 40, bits " + bits, x.sheet(0, bits, 40), bits == 0 ? 0 : 40);
        }
    }

    private static void writeLowestBits() {
        Due.sentence("29 Number i of a sheet becomes v (its lowest bits): what it was.");
        long[] given = {127, 128, 255, 256, -128, -129, 32767, 32768, 65535, 65536, -32768, -32769,
            Integer.MAX_VALUE, 1L << 32, Long.MAX_VALUE, Long.MIN_VALUE, -1, 0};
        long[] in8 = {127, -128, -1, 0, -128, 127, -1, 0, -1, 0, 0, -1, -1, 0, -1, 0, -1, 0};
        long[] in16 = {127, 128, 255, 256, -128, -129, 32767, -32768, -1, 0, -32768, 32767, -1, 0, -1, 0, -1, 0};
        numbers("8 bits", withSheet(8, given), 0, in8);
        numbers("16 bits", withSheet(16, given), 0, in16);
        numbers("64 bits", withSheet(64, given), 0, given);
        StockPot x = withSheet(64, 1, 2, 3);
        Due.is("what it was", x.write(0, 1, 9), 2);
        numbers("those beside it stay", x, 0, 1, 9, 3);
    }

    private static void writeBeyondSheet() {
        Due.sentence("29 BEYOND: no such sheet.");
        Due.range("s", 0, 3, s -> {
            StockPot x = new StockPot();
            x.sheet(s, 8, 1);
            return x.write(s, 0, 1);
        });
    }

    private static void writeMissing() {
        Due.sentence("29 MISSING.");
        StockPot x = new StockPot();
        for (int s = 0; s < 4; s++) {
            Due.is("number 0 of " + s, x.write(s, 0, 1), Due.MISSING);
            Due.is("number -1 of " + s, x.write(s, -1, 1), Due.MISSING);
            Due.is("number 40 of " + s, x.write(s, 40, 1), Due.MISSING);
        }
        x.sheet(2, 8, 1);
        Due.is("the one beside it still is", x.write(3, 0, 1), Due.MISSING);
    }

    private static void writeBeyondNumber() {
        Due.sentence("29 BEYOND: no such number.");
        for (int bits : WIDTHS) {
            Due.range("of forty", 0, 39, i -> withSheet(bits, new long[40]).write(0, i, 1));
            Due.range("of one", 0, 0, i -> withSheet(bits, 0).write(0, i, 1));
            Due.is("of none", withSheet(bits).write(0, 0, 1), Due.BEYOND);
            Due.is("of none", withSheet(bits).write(0, -1, 1), Due.BEYOND);
        }
    }

    private static void copyNumbers() {
        Due.sentence("30 n numbers of a sheet from one on come to another one from one on: n.");
        for (int bits : WIDTHS) {
            StockPot x = withSheet(bits, 1, 2, 3, 4);
            fill(x, 3, bits, 7, 8, 9);
            Due.is("one", x.copy(0, 3, 3, 0, 1), 1);
            numbers("one", x, 3, 4, 8, 9);
            Due.is("to the end", x.copy(0, 0, 3, 1, 2), 2);
            numbers("to the end", x, 3, 4, 1, 2);
            Due.is("from the end", x.copy(0, 1, 3, 0, 3), 3);
            numbers("from the end", x, 3, 2, 3, 4);
            numbers("the first one stays", x, 0, 1, 2, 3, 4);
        }
        StockPot x = withSheet(64, new long[40]);
        x.write(0, 0, Long.MIN_VALUE);
        x.write(0, 39, Long.MAX_VALUE);
        x.sheet(1, 64, 40);
        Due.is("all forty", x.copy(0, 0, 1, 0, 40), 40);
        Due.is("the first of forty", x.write(1, 0, 0), Long.MIN_VALUE);
        Due.is("the last of forty", x.write(1, 39, 0), Long.MAX_VALUE);
    }

    private static void copyAsTheyAllWere() {
        Due.sentence("30 (as they all were)");
        StockPot x = withSheet(8, 1, 2, 3, 4, 5);
        Due.is("one on", x.copy(0, 0, 0, 1, 4), 4);
        numbers("one on", x, 0, 1, 1, 2, 3, 4);
        fill(x, 0, 8, 1, 2, 3, 4, 5);
        Due.is("one back", x.copy(0, 1, 0, 0, 4), 4);
        numbers("one back", x, 0, 2, 3, 4, 5, 5);
        fill(x, 0, 8, 1, 2, 3, 4, 5);
        Due.is("two on", x.copy(0, 0, 0, 2, 3), 3);
        numbers("two on", x, 0, 1, 2, 1, 2, 3);
        Due.is("in place", x.copy(0, 0, 0, 0, 5), 5);
        numbers("in place", x, 0, 1, 2, 1, 2, 3);
    }

    private static void copyOfNone() {
        Due.sentence("30 n numbers: n (of none)");
        StockPot x = withSheet(8, 1, 2);
        x.sheet(1, 8, 0);
        Due.is("from the first", x.copy(0, 0, 0, 0, 0), 0);
        Due.is("from behind the last", x.copy(0, 2, 0, 2, 0), 0);
        Due.is("of a sheet of none", x.copy(1, 0, 0, 0, 0), 0);
        Due.is("to a sheet of none", x.copy(0, 0, 1, 0, 0), 0);
        Due.is("one of a sheet of none", x.copy(1, 0, 0, 0, 1), Due.BEYOND);
        Due.is("one to a sheet of none", x.copy(0, 0, 1, 0, 1), Due.BEYOND);
        numbers("nothing changes", x, 0, 1, 2);
    }

    private static void copyBeyondSheet() {
        Due.sentence("30 BEYOND: no such sheet (either).");
        StockPot x = new StockPot();
        for (int s = 0; s < 4; s++) {
            x.sheet(s, 8, 1);
        }
        Due.range("s", 0, 3, s -> x.copy(s, 0, 1, 0, 1));
        Due.range("t", 0, 3, t -> x.copy(1, 0, t, 0, 1));
        Due.is("both", x.copy(4, 0, -1, 0, 1), Due.BEYOND);
    }

    private static void copyMissing() {
        Due.sentence("30 MISSING: one is.");
        StockPot x = withSheet(8, 1);
        Due.is("the first one", x.copy(3, 0, 0, 0, 1), Due.MISSING);
        Due.is("the other one", x.copy(0, 0, 3, 0, 1), Due.MISSING);
        Due.is("both", x.copy(2, 0, 3, 0, 1), Due.MISSING);
        Due.is("one to itself", x.copy(3, 0, 3, 0, 0), Due.MISSING);
    }

    private static void copyKind() {
        Due.sentence("30 KIND: they are not of as many bits.");
        for (int bits : WIDTHS) {
            for (int other : WIDTHS) {
                StockPot x = withSheet(bits, 5);
                x.sheet(1, other, 1);
                Due.is(bits + " to " + other, x.copy(0, 0, 1, 0, 1), bits == other ? 1 : Due.KIND);
                Due.is("none of " + bits + " to " + other, x.copy(0, 0, 1, 0, 0), bits == other ? 0 : Due.KIND);
            }
        }
    }

    private static void copyBeyondNumbers() {
        Due.sentence("30 BEYOND: one has not so many, or from, to or n is below 0.");
        StockPot x = withSheet(8, 1, 2, 3);
        fill(x, 1, 8, 7, 8);
        Due.is("from one too far", x.copy(0, 2, 1, 0, 2), Due.BEYOND);
        Due.is("to one too far", x.copy(0, 0, 1, 1, 2), Due.BEYOND);
        Due.is("n of the first", x.copy(0, 0, 0, 0, 4), Due.BEYOND);
        Due.is("n of the other", x.copy(0, 0, 1, 0, 3), Due.BEYOND);
        Due.is("none from too far", x.copy(0, 4, 1, 0, 0), Due.BEYOND);
        Due.is("none to too far", x.copy(0, 0, 1, 3, 0), Due.BEYOND);
        Due.range("from", 0, 2, from -> x.copy(0, from, 1, 0, 1));
        Due.range("to", 0, 1, to -> x.copy(1, 0, 1, to, 1));
        Due.range("n", 0, 2, n -> x.copy(1, 0, 1, 0, n));
        // Sums that wrap around are not within.
        int most = Integer.MAX_VALUE;
        Due.is("from and n, wrapped", x.copy(0, most, 1, 0, most), Due.BEYOND);
        Due.is("to and n, wrapped", x.copy(0, 0, 1, most, most), Due.BEYOND);
        Due.is("from 1 and n, wrapped", x.copy(0, 1, 1, 1, most), Due.BEYOND);
        Due.is("from, wrapped to 0", x.copy(0, Integer.MIN_VALUE, 1, 0, Integer.MIN_VALUE), Due.BEYOND);
    }

    private static void laysOneByOne() {
        Due.sentence("31 Numbers of a sheet become GRAINS of PARTS 0, 1, .., one by one: how many came.");
        StockPot x = withSheet(16, 0);
        Due.is("one number, 0", x.lays(0), 1);
        Due.amounts("one number, 0", x);
        x = withSheet(64, 1, 2, 3, 4, 5, 6, 7, 8, 9, 10, 11, 12);
        Due.is("twelve numbers", x.lays(0), 12);
        Due.amounts("twelve numbers", x, 1, 2, 3, 4, 5, 6, 7, 8, 9, 10, 11, 12);
        Due.is("once more", x.lays(0), 12);
        Due.is("now(1)", x.now(1), 78);
        x = withSheet(64, 50, 50);
        x.pour(2, 5);
        Due.is("two numbers", x.lays(0), 2);
        Due.amounts("the others stay", x, 50, 50, 5);
        x.sheet(1, 8, 0);
        Due.is("no numbers", x.lays(1), 0);
        Due.amounts("no numbers", x, 50, 50, 5);
        Due.is("no findings", x.status(-1), 0);
    }

    private static void laysBelowNought() {
        Due.sentence("31 (those that are below 0 are left out)");
        StockPot x = withSheet(64, -1, 0, Long.MIN_VALUE, 1, -(1L << 32) + 5);
        Due.is("two of five", x.lays(0), 2);
        Due.amounts("64 bits", x, 1000, 0, 0, 1);
        x = withSheet(8, 127, 128, 255, 256);
        Due.is("8 bits", x.lays(0), 2);
        Due.amounts("8 bits", x, 127);
        x = withSheet(16, 32767, 32768, 65535);
        Due.is("16 bits", x.lays(0), 1);
        Due.amounts("16 bits", x, 32767);
    }

    private static void laysAboveAll() {
        Due.sentence("31 (those that would make ALL above 99999 are left out)");
        StockPot x = withSheet(64, 99999, 1, 0);
        Due.is("99999 and 1 and 0", x.lays(0), 2);
        Due.amounts("99999 and 1", x, 99999);
        x = withSheet(64, 100000, 99999, 98999, 1);
        Due.is("what there was counts", x.lays(0), 1);
        Due.amounts("what there was counts", x, 1000, 0, 98999);
        x = withSheet(64, 0, 99999);
        Due.is("room by the one ahead", x.lays(0), 2);
        Due.amounts("room by the one ahead", x, 0, 99999);
        x = withSheet(64, 99999, 0);
        x.pour(1, 98999);
        Due.is("no room by the one behind", x.lays(0), 1);
        Due.amounts("no room by the one behind", x, 1000);
        x = withSheet(64, 1L << 32, (1L << 32) + 5, Long.MAX_VALUE, Integer.MAX_VALUE, 1L + Integer.MAX_VALUE);
        Due.is("numbers that are wide", x.lays(0), 0);
        Due.amounts("numbers that are wide", x, 1000);
    }

    private static void laysForNone() {
        Due.sentence("31 (those that stand for none are left out)");
        StockPot x = withSheet(8, 1, 1, 1, 1, 1, 1, 1, 1, 1, 1, 1, 1, 9);
        Due.is("thirteen numbers", x.lays(0), 12);
        Due.is("now(1)", x.now(1), 12);
        x = withSheet(64, new long[40]);
        Due.is("forty numbers", x.lays(0), 12);
        Due.amounts("forty numbers", x);
    }

    private static void laysFindings() {
        Due.sentence("31 BEYOND: no such sheet. MISSING.");
        Due.range("s", 0, 3, s -> {
            StockPot x = new StockPot();
            x.sheet(s, 8, 1);
            return x.lays(s);
        });
        for (int s = 0; s < 4; s++) {
            Due.is("MISSING " + s, new StockPot().lays(s), Due.MISSING);
        }
    }

    private static StockPot giving(int merit) {
        StockPot x = Due.potOf(100);
        Due.addCook(x, 0, 1, 0, merit);
        return x;
    }

    private static void bookByYears() {
        Due.sentence("32 TASTE of a PART ON 0, 1, 2, .. YEARS comes to a sheet, as many as it has numbers: how many.");
        StockPot x = giving(5);
        x.sheet(0, 64, 0);
        Due.is("none", x.book(0, 1), 0);
        x.sheet(0, 64, 1);
        x.write(0, 0, 7);
        Due.is("one", x.book(0, 1), 1);
        numbers("one", x, 0, 0);
        x.sheet(0, 64, 40);
        Due.is("forty", x.book(0, 1), 40);
        for (int n = 0; n < 40; n++) {
            Due.is("number " + n, x.write(0, n, 0), 1000L * 5 * n / (100 + 5 * n));
        }
        x.sheet(0, 8, 2);
        x.book(0, 0);
        // 1000 is 3 times 256 and 232; 952 is 3 times 256 and 184.
        numbers("8 bits", x, 0, 232 - 256, 184 - 256);
        x.sheet(0, 16, 2);
        x.book(0, 0);
        numbers("16 bits", x, 0, 1000, 952);
        Due.is("the year stays", x.now(0), 0);
        x = Due.inYear(Due.potOf(100), 9999);
        Due.addCook(x, 0, 1, 0, 9);
        x.sheet(0, 16, 40);
        Due.is("behind the last year", x.book(0, 1), 40);
        Due.is("the last number", x.write(0, 39, 0), 1000 * 351 / 451);
    }

    private static void bookFindings() {
        Due.sentence("32 BEYOND: no such sheet. MISSING. BEYOND: part.");
        Due.range("s", 0, 3, s -> {
            StockPot x = new StockPot();
            x.sheet(s, 8, 1);
            return x.book(s, 0);
        });
        Due.range("part", 0, 11, part -> withSheet(8, 1).book(0, part));
        Due.range("part, of no numbers", 0, 11, part -> withSheet(8).book(0, part));
        for (int s = 0; s < 4; s++) {
            Due.is("MISSING " + s, new StockPot().book(s, 0), Due.MISSING);
        }
    }

    private static void readPairs() {
        Due.sentence("33 how many pairs of a KIND and a PART (0 to 11) of a COOK make it just so");
        StockPot x = giving(5);
        x.sheet(0, 64, 40);
        x.book(0, 1);
        // Of no weight: cook and frugal put the same of part 1.
        Due.is("forty numbers", x.read(0, 1, 0), 2);
        x.write(0, 39, x.write(0, 39, 0) + 1);
        Due.is("the last one off by one", x.read(0, 1, 0), 0);
        x.sheet(0, 64, 2);
        x.write(0, 0, 1000);
        x.write(0, 1, 1000);
        // Watery and statute put nothing; the others put water if their part is 0, but blitz puts 11 of 100.
        Due.is("water alone", x.read(0, 0, 0), 12 + 12 + 3);
        x.book(0, 11);
        Due.is("part 11 by none", x.read(0, 11, 0), 72 - 12 - 3);
        Due.is("the kind stays", x.of(0, 0), 0);
        Due.is("the part stays", x.of(0, 1), 1);
        x.cook(0);
        Due.is("one whose turn doesn't come", x.read(0, 11, 1), 72);
    }

    private static void readOfNoNumbers() {
        Due.sentence("33 numbers of a sheet are TASTES of a PART ON 0, 1, 2, .. YEARS (none, one)");
        StockPot x = giving(5);
        x.sheet(0, 8, 0);
        Due.is("no numbers", x.read(0, 1, 0), 72);
        x.sheet(0, 8, 1);
        Due.is("now, as it is", x.read(0, 1, 0), 72);
        x.write(0, 0, 1);
        Due.is("now, as it isn't", x.read(0, 1, 0), 0);
    }

    private static void readWholeNumbers() {
        Due.sentence("33 numbers of a sheet are TASTES (whole ones)");
        StockPot x = giving(5);
        x.sheet(0, 64, 1);
        x.write(0, 0, 1000);
        Due.is("1000", x.read(0, 0, 0), 72);
        x.write(0, 0, 1000 + (1L << 32));
        Due.is("1000 and 2 by 32", x.read(0, 0, 0), 0);
        x.write(0, 0, -1000);
        Due.is("-1000", x.read(0, 0, 0), 0);
        x.sheet(0, 8, 1);
        x.book(0, 0);
        Due.is("1000 in 8 bits is -24", x.read(0, 0, 0), 0);
    }

    private static void readFindings() {
        Due.sentence("33 BEYOND: no such sheet. MISSING. BEYOND: part, cook.");
        Due.range("s", 0, 3, s -> {
            StockPot x = Due.withCooks(new StockPot(), 1);
            x.sheet(s, 8, 1);
            return x.read(s, 0, 0);
        });
        Due.range("part", 0, 11, part -> Due.withCooks(withSheet(8, 1), 1).read(0, part, 0));
        Due.range("part, of no numbers", 0, 11, part -> Due.withCooks(withSheet(8), 1).read(0, part, 0));
        Due.range("cook", 0, 0, cook -> Due.withCooks(withSheet(8, 1), 1).read(0, 0, cook));
        Due.range("cook, of eight", 0, 7, cook -> Due.withCooks(withSheet(8), 8).read(0, 0, cook));
        for (int s = 0; s < 4; s++) {
            Due.is("MISSING " + s, Due.withCooks(new StockPot(), 1).read(s, 0, 0), Due.MISSING);
        }
    }
}
