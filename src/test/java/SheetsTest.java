/** Promises 28 to 33. */
public final class SheetsTest {
    public static void main(String[] args) {
        sheet();
        write();
        copy();
        lays();
        book();
        read();
        Due.end("SheetsTest");
    }

    private static StockPot withSheet(int bits, long... numbers) {
        StockPot x = new StockPot();
        x.sheet(0, bits, numbers.length);
        for (int i = 0; i < numbers.length; i++) {
            x.write(0, i, numbers[i]);
        }
        return x;
    }

    private static void numbers(String call, StockPot x, int s, long... wanted) {
        for (int i = 0; i < wanted.length; i++) {
            long was = x.write(s, i, 0);
            Due.is(call + ", number " + i, was, wanted[i]);
            x.write(s, i, was);
        }
    }

    private static void sheet() {
        StockPot x = new StockPot();
        for (int bits : new int[] {8, 16, 64}) {
            Due.is("28 most", x.sheet(3, bits, 40), 40);
            Due.is("28 last number", x.write(3, 39, 5), 0);
            Due.is("28 none", x.sheet(3, bits, 0), 0);
            Due.is("28 no number", x.write(3, 0, 5), Due.BEYOND);
        }
        x.sheet(0, 8, 2);
        x.write(0, 0, 7);
        x.sheet(0, 8, 2);
        Due.is("28 all 0 anew", x.write(0, 0, 1), 0);
        Due.is("28 missing", x.sheet(0, 0, 9), 0);
        Due.is("28 missing", x.lays(0), Due.MISSING);
        Due.is("28 missing again", x.sheet(0, 0, 0), 0);
        Due.is("28 sheet 4", x.sheet(4, 8, 1), Due.BEYOND);
        Due.is("28 bits 32", x.sheet(0, 32, 1), Due.BEYOND);
        Due.is("28 BEYOND goes before SIZE", x.sheet(4, 8, -1), Due.BEYOND);
        Due.is("28 bits go before SIZE", x.sheet(0, 9, -1), Due.BEYOND);
        for (int bits : new int[] {0, 8, 16, 64}) {
            x.sheet(1, 16, 3);
            Due.is("28 n -1", x.sheet(1, bits, -1), Due.SIZE);
            Due.is("28 n least", x.sheet(1, bits, Integer.MIN_VALUE), Due.SIZE);
            Due.is("28 n 41", x.sheet(1, bits, 41), Due.BEYOND);
            Due.is("28 n greatest", x.sheet(1, bits, Integer.MAX_VALUE), Due.BEYOND);
            Due.is("28 it stays", x.write(1, 2, 0), 0);
        }
        for (int wild : Due.WILD) {
            Due.is("28 sheet", x.sheet(wild, 8, 1), Due.BEYOND);
            Due.is("28 bits", x.sheet(0, wild, 1), Due.BEYOND);
        }
    }

    private static void write() {
        long wide = 0x123456789ABCDEF0L;
        StockPot x = withSheet(8, 127, 128, 255, 256, wide, -1);
        numbers("29 8 bits", x, 0, 127, -128, -1, 0, -16, -1);
        x = withSheet(16, 32767, 32768, 65535, 65536, wide, -1);
        numbers("29 16 bits", x, 0, 32767, -32768, -1, 0, (short) 0xDEF0, -1);
        x = withSheet(64, Long.MAX_VALUE, Long.MIN_VALUE, wide, -1);
        numbers("29 64 bits", x, 0, Long.MAX_VALUE, Long.MIN_VALUE, wide, -1);
        Due.is("29 what it was", x.write(0, 2, 5), wide);
        Due.is("29 became", x.write(0, 2, 6), 5);
        Due.is("29 missing", x.write(1, 0, 0), Due.MISSING);
        Due.is("29 MISSING goes before no such number", x.write(1, 40, 0), Due.MISSING);
        Due.is("29 sheet 4", x.write(4, 0, 0), Due.BEYOND);
        Due.is("29 number 4", x.write(0, 4, 0), Due.BEYOND);
        for (int wild : Due.WILD) {
            Due.is("29 sheet", x.write(wild, 0, 0), Due.BEYOND);
            Due.is("29 number", x.write(0, wild, 0), Due.BEYOND);
        }
    }

    private static void copy() {
        StockPot x = withSheet(16, 1, 2, 3, 4, 5);
        x.sheet(1, 16, 3);
        x.sheet(2, 8, 3);
        Due.is("30 to another", x.copy(0, 2, 1, 0, 3), 3);
        numbers("30 to another", x, 1, 3, 4, 5);
        numbers("30 the first stays", x, 0, 1, 2, 3, 4, 5);
        Due.is("30 to itself, behind", x.copy(0, 0, 0, 1, 4), 4);
        numbers("30 as they all were", x, 0, 1, 1, 2, 3, 4);
        Due.is("30 to itself, ahead", x.copy(0, 1, 0, 0, 4), 4);
        numbers("30 as they all were", x, 0, 1, 2, 3, 4, 4);
        Due.is("30 none", x.copy(0, 5, 1, 3, 0), 0);
        Due.is("30 other bits", x.copy(0, 0, 2, 0, 1), Due.KIND);
        Due.is("30 KIND goes before the numbers", x.copy(0, -1, 2, 0, 99), Due.KIND);
        Due.is("30 missing", x.copy(0, 0, 3, 0, 1), Due.MISSING);
        Due.is("30 missing", x.copy(3, 0, 0, 0, 1), Due.MISSING);
        Due.is("30 MISSING goes before the numbers", x.copy(3, 0, 0, 0, -1), Due.MISSING);
        Due.is("30 sheet 4", x.copy(4, 0, 3, 0, 1), Due.BEYOND);
        Due.is("30 sheet 4", x.copy(3, 0, 4, 0, 1), Due.BEYOND);
        Due.is("30 one too many", x.copy(0, 3, 1, 0, 3), Due.BEYOND);
        Due.is("30 one too many there", x.copy(0, 0, 1, 1, 3), Due.BEYOND);
        Due.is("30 none, too far", x.copy(0, 6, 1, 0, 0), Due.BEYOND);
        Due.is("30 none, too far there", x.copy(0, 0, 1, 4, 0), Due.BEYOND);
        for (int wild : Due.WILD) {
            Due.is("30 sheet", x.copy(wild, 0, 0, 0, 0), Due.BEYOND);
            Due.is("30 sheet", x.copy(0, 0, wild, 0, 0), Due.BEYOND);
            Due.is("30 from", x.copy(0, wild, 1, 0, 1), Due.BEYOND);
            Due.is("30 to", x.copy(0, 0, 1, wild, 1), Due.BEYOND);
            Due.is("30 n", x.copy(0, 1, 1, 1, wild), Due.BEYOND);
        }
        numbers("30 a finding changes nothing", x, 1, 3, 4, 5);
    }

    private static void lays() {
        StockPot x = withSheet(64, 7, -1, 9, 100000, Long.MAX_VALUE, 1L << 32, 0, Long.MIN_VALUE, 8);
        x.pour(6, 50);
        Due.is("31 how many came", x.lays(0), 4);
        Due.amounts("31 those that could", x, 7, 0, 9, 0, 0, 0, 0, 0, 8);
        x = withSheet(64, 5, 99995, 99994, 1, 0);
        Due.is("31 one by one", x.lays(0), 3);
        Due.amounts("31 one by one", x, 5, 0, 99994);
        x = withSheet(64, 0, 99999);
        Due.is("31 the first makes room", x.lays(0), 2);
        Due.amounts("31 the first makes room", x, 0, 99999);
        x = new StockPot();
        x.sheet(0, 8, 40);
        for (int i = 0; i < 40; i++) {
            x.write(0, i, i + 1);
        }
        Due.is("31 those that stand for none", x.lays(0), 12);
        Due.amounts("31 twelve", x, 1, 2, 3, 4, 5, 6, 7, 8, 9, 10, 11, 12);
        x.sheet(1, 8, 0);
        Due.is("31 an empty one", x.lays(1), 0);
        x.sheet(1, 8, 1);
        x.write(1, 0, 200);
        Due.is("31 200 in 8 bits is below 0", x.lays(1), 0);
        Due.is("31 missing", x.lays(2), Due.MISSING);
        Due.is("31 sheet 4", x.lays(4), Due.BEYOND);
        for (int wild : Due.WILD) {
            Due.is("31 sheet", x.lays(wild), Due.BEYOND);
        }
    }

    private static StockPot oneCook(int bits, int n) {
        StockPot x = new StockPot();
        x.cook(0);
        x.set(0, 3, 0);
        x.sheet(0, bits, n);
        return x;
    }

    private static void book() {
        StockPot x = oneCook(16, 8);
        Due.is("32 how many", x.book(0, 0), 8);
        numbers("32 water by years", x, 0, 1000, 900, 810, 729, 656, 590, 531, 477);
        Due.is("32 part 1", x.book(0, 1), 8);
        numbers("32 part 1 by years", x, 0, 0, 100, 190, 271, 344, 410, 469, 523);
        Due.amounts("32 the pot stays", x, 1000);
        Due.is("32 the year stays", x.now(0), 0);
        x = oneCook(8, 3);
        x.book(0, 0);
        numbers("32 the lowest bits", x, 0, -24, -124, 42);
        x.sheet(1, 64, 0);
        Due.is("32 an empty one", x.book(1, 0), 0);
        Due.is("32 missing", x.book(2, 0), Due.MISSING);
        Due.is("32 MISSING goes before part", x.book(2, 12), Due.MISSING);
        Due.is("32 part 12", x.book(0, 12), Due.BEYOND);
        Due.is("32 sheet 4", x.book(4, 0), Due.BEYOND);
        for (int wild : Due.WILD) {
            Due.is("32 sheet", x.book(wild, 0), Due.BEYOND);
            Due.is("32 part", x.book(0, wild), Due.BEYOND);
        }
    }

    private static void read() {
        StockPot x = oneCook(16, 8);
        x.book(0, 1);
        Due.is("33 cook and part 1 alone", x.read(0, 1, 0), 1);
        x.turn(0, 5);
        x.set(0, 1, 9);
        Due.is("33 whatever it is now", x.read(0, 1, 0), 1);
        Due.is("33 the kind stays", x.of(0, 0), 5);
        Due.is("33 the part stays", x.of(0, 1), 9);
        x.write(0, 7, 524);
        Due.is("33 the last one is off", x.read(0, 1, 0), 0);
        x.turn(0, 0);
        x.sheet(0, 64, 40);
        x.book(0, 9);
        Due.is("33 forty numbers", x.read(0, 9, 0), 1);
        x.sheet(0, 64, 1);
        x.write(0, 0, 1000);
        Due.is("33 on 0 years all are right", x.read(0, 0, 0), 72);
        x.write(0, 0, 1000 + (1L << 32));
        Due.is("33 asked whole", x.read(0, 0, 0), 0);
        x.sheet(0, 64, 0);
        Due.is("33 an empty one", x.read(0, 0, 0), 72);
        // In year 0: watery and statute with any part, and the other four kinds with part 0.
        x = oneCook(16, 2);
        x.write(0, 0, 1000);
        x.write(0, 1, 1000);
        Due.is("33 water stays whole", x.read(0, 0, 0), 12 + 12 + 4);
        x = oneCook(8, 1);
        x.write(0, 0, 1000);
        Due.is("33 a number that was cut is no taste", x.read(0, 0, 0), 0);
        Due.is("33 missing", x.read(1, 0, 0), Due.MISSING);
        Due.is("33 MISSING goes before part", x.read(1, 12, 9), Due.MISSING);
        Due.is("33 part 12", x.read(0, 12, 0), Due.BEYOND);
        Due.is("33 cook 1", x.read(0, 0, 1), Due.BEYOND);
        Due.is("33 sheet 4", x.read(4, 0, 0), Due.BEYOND);
        for (int wild : Due.WILD) {
            Due.is("33 sheet", x.read(wild, 0, 0), Due.BEYOND);
            Due.is("33 part", x.read(0, wild, 0), Due.BEYOND);
            Due.is("33 cook", x.read(0, 0, wild), Due.BEYOND);
        }
    }
}
