import java.util.ArrayList;
import java.util.List;
import java.util.function.Consumer;
import java.util.function.ToLongFunction;

/**
 * The sentences about FINDINGS. Each row makes two objects alike, asks one of them what answers a finding,
 * and holds both against each other: all but status() is to be the same then.
 */
public final class FindingsTest {
    private static final Consumer<StockPot> AS_IT_IS = x -> { };
    private static final Consumer<StockPot> FULL_POT = x -> x.pour(9, x.grains(9) + 99999 - x.now(1));
    private static final Consumer<StockPot> EIGHT_COOKS = x -> Due.withCooks(x, 5);
    private static final Consumer<StockPot> LAST_YEAR = x -> Due.inYear(x, 9999 - x.now(0));
    private static final Consumer<StockPot> NOTHING_KEPT = StockPot::tear;
    private static final Consumer<StockPot> NO_WATER = x -> x.pour(0, 0);
    private static final Consumer<StockPot> NOTHING_TAKEN = x -> {
        for (int cook = 0; cook < 3; cook++) {
            x.turn(cook, 0);
            x.set(cook, 2, 0);
        }
    };
    private static final Consumer<StockPot> TAPE_OF_118 = x -> {
        for (int left = 118 - x.count(1); left > 0; left -= 4) {
            x.feed(0x20202020, Math.min(left, 4));
        }
    };

    public static void main(String[] args) {
        values();
        changesInThePot();
        changesOfCooks();
        changesByYears();
        changesByWhatIsBest();
        changesOfTheText();
        changesOfSheets();
        changesOfImages();
        orderInThePot();
        orderOfCooks();
        orderByYears();
        orderByWhatIsBest();
        orderOfTheText();
        orderOfSheets();
        noFindings();
        Due.end("FindingsTest");
    }

    /** Something of all that an object holds: parts, cooks, a year, an image of before, a tape, sheets. */
    private static StockPot settled() {
        StockPot x = Due.potOf(300, 0, 70, 8, 0, 5, 0, 0, 0, 21, 0, 1);
        Due.addCook(x, 4, 2, 31, 8);
        x.years(3);
        x.image();
        Due.addCook(x, 5, 7, 12, 1);
        Due.addCook(x, 0, 9, 40, 0);
        x.years(5);
        x.sheet(0, 8, 3);
        x.write(0, 1, -7);
        x.sheet(1, 16, 40);
        x.write(1, 39, 3000);
        x.sheet(2, 64, 0);
        Due.lay(x, "part 5 77");
        return x;
    }

    private static void tellPot(StockPot x, List<Long> told) {
        for (int part = 0; part < 12; part++) {
            told.add((long) x.grains(part));
        }
        for (int what = 0; what < 6; what++) {
            told.add((long) x.now(what));
        }
        for (int cook = 0; cook < x.count(0); cook++) {
            for (int what = 0; what < 7; what++) {
                told.add((long) x.of(cook, what));
            }
        }
    }

    private static void tellSheets(StockPot x, List<Long> told) {
        for (int s = 0; s < 4; s++) {
            int size = 0;
            for (long was = x.write(s, 0, 0); !Due.isFinding(was) && size < 41; was = x.write(s, size, 0)) {
                told.add(was);
                size++;
            }
            told.add(x.write(s, size, 0));
            // Which bits it has shows in what it keeps of a wide number.
            x.write(s, 0, 0x123456789ABCDEF0L);
            told.add(x.write(s, 0, 0));
        }
    }

    /** All that can be asked of an object but status(); asking undoes and reads what it holds. */
    private static List<Long> allOf(StockPot x) {
        List<Long> told = new ArrayList<>();
        tellPot(x, told);
        tellSheets(x, told);
        told.add((long) x.count(1));
        told.add((long) x.college());
        told.add((long) x.grains(5));
        told.add((long) x.undo());
        tellPot(x, told);
        told.add((long) x.tear());
        return told;
    }

    private static void holds(String call, long finding, Consumer<StockPot> before, ToLongFunction<StockPot> act) {
        StockPot asked = settled();
        StockPot left = settled();
        before.accept(asked);
        before.accept(left);
        Due.is(call, act.applyAsLong(asked), finding);
        for (int which = 0; which < 7; which++) {
            long more = which == Due.BEYOND - finding ? 1 : 0;
            Due.is(call + ", then status(" + which + ")", asked.status(which), left.status(which) + more);
        }
        Due.is(call + ", then status(-1)", asked.status(-1), left.status(-1) + 1);
        List<Long> due = allOf(left);
        List<Long> got = allOf(asked);
        Due.is(call + ", then so much can be asked", got.size(), due.size());
        for (int i = 0; i < due.size() && i < got.size(); i++) {
            Due.is(call + ", then answer " + i, got.get(i), due.get(i));
        }
    }

    private static void beyond(String call, ToLongFunction<StockPot> act) {
        holds(call, Due.BEYOND, AS_IT_IS, act);
    }

    private static void values() {
        Due.sentence("FINDINGS are answers below -1000000000 (in longs, too)");
        StockPot x = new StockPot();
        Due.is("BEYOND, grains(12)", x.grains(12), -1000000001);
        Due.is("FULL, pour(1, 99999)", x.pour(1, 99999), -1000000002);
        x.cook(0);
        Due.is("KIND, as(0, 1)", x.as(0, 1), -1000000003);
        Due.is("NONE, undo()", x.undo(), -1000000004);
        Due.is("STATE, years(1) in the last year", Due.inYear(new StockPot(), 9999).years(1), -1000000005);
        Due.is("MISSING, lays(0)", x.lays(0), -1000000006);
        Due.is("SIZE, sheet(0, 8, -1)", x.sheet(0, 8, -1), -1000000007);
        Due.is("BEYOND in a long, write(4, 0, 0)", x.write(4, 0, 0), -1000000001L);
        Due.is("MISSING in a long, write(0, 0, 0)", x.write(0, 0, 0), -1000000006L);
    }

    private static void changesInThePot() {
        Due.sentence("one that answers a finding changes nothing but status()");
        beyond("grains(12)", x -> x.grains(12));
        beyond("pour(12, 0)", x -> x.pour(12, 0));
        beyond("pour(0, 100000)", x -> x.pour(0, 100000));
        beyond("pour(0, -1)", x -> x.pour(0, -1));
        holds("pour(4, 1) of a full pot", Due.FULL, FULL_POT, x -> x.pour(4, 1));
        holds("pour(0, 99999)", Due.FULL, AS_IT_IS, x -> x.pour(0, 99999));
        beyond("taste(-1)", x -> x.taste(-1));
        beyond("spoon(0)", x -> x.spoon(0));
        beyond("spoon(1000)", x -> x.spoon(1000));
        beyond("spoonOf(12, 5)", x -> x.spoonOf(12, 5));
        beyond("spoonOf(0, 1000)", x -> x.spoonOf(0, 1000));
    }

    private static void changesOfCooks() {
        beyond("cook(6)", x -> x.cook(6));
        holds("cook(0) as a ninth", Due.FULL, EIGHT_COOKS, x -> x.cook(0));
        beyond("of(3, 0)", x -> x.of(3, 0));
        beyond("of(0, 7)", x -> x.of(0, 7));
        beyond("set(3, 1, 1)", x -> x.set(3, 1, 1));
        beyond("set(0, 0, 1)", x -> x.set(0, 0, 1));
        beyond("set(0, 1, 12)", x -> x.set(0, 1, 12));
        beyond("set(0, 2, 1000)", x -> x.set(0, 2, 1000));
        beyond("set(0, 3, 10)", x -> x.set(0, 3, 10));
        beyond("turn(3, 0)", x -> x.turn(3, 0));
        beyond("turn(0, 6)", x -> x.turn(0, 6));
        beyond("as(3, 0)", x -> x.as(3, 0));
        beyond("as(0, 6)", x -> x.as(0, 6));
        holds("as(0, 2)", Due.KIND, AS_IT_IS, x -> x.as(0, 2));
        beyond("swap(0, 3)", x -> x.swap(0, 3));
        beyond("swap(3, 0)", x -> x.swap(3, 0));
        beyond("swap(1, 1)", x -> x.swap(1, 1));
    }

    private static void changesByYears() {
        beyond("years(0)", x -> x.years(0));
        beyond("years(101)", x -> x.years(101));
        holds("years(1) in the last year", Due.STATE, LAST_YEAR, x -> x.years(1));
        beyond("now(6)", x -> x.now(6));
        beyond("on(12, 5, 0)", x -> x.on(12, 5, 0));
        beyond("on(0, 101, 0)", x -> x.on(0, 101, 0));
        beyond("on(0, 5, 2)", x -> x.on(0, 5, 2));
        holds("vague()", Due.NONE, NO_WATER, x -> x.vague());
        beyond("gone(12, 0)", x -> x.gone(12, 0));
        beyond("gone(0, 100000)", x -> x.gone(0, 100000));
        holds("gone(9, 0)", Due.NONE, NOTHING_TAKEN, x -> x.gone(9, 0));
        beyond("strong(12, 0)", x -> x.strong(12, 0));
        beyond("strong(0, 1001)", x -> x.strong(0, 1001));
        holds("strong(10, 1)", Due.NONE, AS_IT_IS, x -> x.strong(10, 1));
    }

    private static void changesByWhatIsBest() {
        beyond("better(12, 5)", x -> x.better(12, 5));
        beyond("better(0, 61)", x -> x.better(0, 61));
        holds("better(10, 60)", Due.NONE, AS_IT_IS, x -> x.better(10, 60));
        beyond("weight(3, 0, 5, 0)", x -> x.weight(3, 0, 5, 0));
        beyond("weight(0, 12, 5, 0)", x -> x.weight(0, 12, 5, 0));
        beyond("weight(0, 0, 21, 0)", x -> x.weight(0, 0, 21, 0));
        beyond("weight(0, 0, 5, 100000)", x -> x.weight(0, 0, 5, 100000));
        holds("weight(1, 10, 20, 1)", Due.NONE, AS_IT_IS, x -> x.weight(1, 10, 20, 1));
        beyond("kind(3, 0, 5)", x -> x.kind(3, 0, 5));
        beyond("kind(0, 12, 5)", x -> x.kind(0, 12, 5));
        beyond("kind(0, 0, 61)", x -> x.kind(0, 0, 61));
        beyond("puts(3, 5)", x -> x.puts(3, 5));
        beyond("puts(0, 61)", x -> x.puts(0, 61));
        beyond("best(101)", x -> x.best(101));
        beyond("dull(61)", x -> x.dull(61));
    }

    private static void changesOfTheText() {
        beyond("feed(32, 0)", x -> x.feed(32, 0));
        beyond("feed(32, 5)", x -> x.feed(32, 5));
        holds("feed(32, 3) behind 118 bytes", Due.FULL, TAPE_OF_118, x -> x.feed(32, 3));
    }

    private static void changesOfSheets() {
        beyond("sheet(4, 8, 1)", x -> x.sheet(4, 8, 1));
        beyond("sheet(0, 32, 1)", x -> x.sheet(0, 32, 1));
        holds("sheet(0, 16, -1)", Due.SIZE, AS_IT_IS, x -> x.sheet(0, 16, -1));
        holds("sheet(0, 0, -1)", Due.SIZE, AS_IT_IS, x -> x.sheet(0, 0, -1));
        beyond("sheet(0, 16, 41)", x -> x.sheet(0, 16, 41));
        beyond("sheet(0, 0, 41)", x -> x.sheet(0, 0, 41));
        beyond("write(4, 0, 9)", x -> x.write(4, 0, 9));
        holds("write(3, 0, 9)", Due.MISSING, AS_IT_IS, x -> x.write(3, 0, 9));
        beyond("write(0, 3, 9)", x -> x.write(0, 3, 9));
        beyond("copy(4, 0, 0, 0, 1)", x -> x.copy(4, 0, 0, 0, 1));
        beyond("copy(0, 0, 4, 0, 1)", x -> x.copy(0, 0, 4, 0, 1));
        holds("copy(3, 0, 0, 0, 1)", Due.MISSING, AS_IT_IS, x -> x.copy(3, 0, 0, 0, 1));
        holds("copy(0, 0, 3, 0, 1)", Due.MISSING, AS_IT_IS, x -> x.copy(0, 0, 3, 0, 1));
        holds("copy(0, 1, 1, 0, 1)", Due.KIND, AS_IT_IS, x -> x.copy(0, 1, 1, 0, 1));
        beyond("copy(0, 1, 0, 2, 2)", x -> x.copy(0, 1, 0, 2, 2));
        beyond("copy(0, 2, 0, 0, 2)", x -> x.copy(0, 2, 0, 0, 2));
        beyond("lays(4)", x -> x.lays(4));
        holds("lays(3)", Due.MISSING, AS_IT_IS, x -> x.lays(3));
        beyond("book(4, 0)", x -> x.book(4, 0));
        holds("book(3, 0)", Due.MISSING, AS_IT_IS, x -> x.book(3, 0));
        beyond("book(0, 12)", x -> x.book(0, 12));
        beyond("read(4, 0, 0)", x -> x.read(4, 0, 0));
        holds("read(3, 0, 0)", Due.MISSING, AS_IT_IS, x -> x.read(3, 0, 0));
        beyond("read(0, 12, 0)", x -> x.read(0, 12, 0));
        beyond("read(0, 0, 3)", x -> x.read(0, 0, 3));
    }

    private static void changesOfImages() {
        holds("undo() with nothing kept", Due.NONE, NOTHING_KEPT, x -> x.undo());
        beyond("count(4)", x -> x.count(4));
        beyond("status(7)", x -> x.status(7));
        beyond("status(-2)", x -> x.status(-2));
    }

    private static void orderInThePot() {
        Due.sentence("Each act tells its findings in the order in which they are asked");
        holds("pour: BEYOND for part, ahead of FULL", Due.BEYOND, FULL_POT, x -> x.pour(12, 99999));
        holds("pour: BEYOND for v, ahead of FULL", Due.BEYOND, FULL_POT, x -> x.pour(4, 100000));
    }

    private static void orderOfCooks() {
        holds("cook: BEYOND, ahead of FULL", Due.BEYOND, EIGHT_COOKS, x -> x.cook(6));
        beyond("as: BEYOND for the cook, ahead of KIND", x -> x.as(3, 3));
        beyond("as: BEYOND for the kind, ahead of KIND", x -> x.as(0, 6));
    }

    private static void orderByYears() {
        holds("years: BEYOND below, ahead of STATE", Due.BEYOND, LAST_YEAR, x -> x.years(0));
        holds("years: BEYOND above, ahead of STATE", Due.BEYOND, LAST_YEAR, x -> x.years(101));
        holds("years: no wrap-around ahead of it", Due.BEYOND, LAST_YEAR, x -> x.years(Integer.MAX_VALUE));
        beyond("gone: BEYOND for part, ahead of NONE", x -> x.gone(12, 0));
        holds("gone: BEYOND for v, ahead of NONE", Due.BEYOND, NOTHING_TAKEN, x -> x.gone(9, -1));
        beyond("strong: BEYOND for part, ahead of NONE", x -> x.strong(12, 1000));
        beyond("strong: BEYOND for w, ahead of NONE", x -> x.strong(10, 1001));
    }

    private static void orderByWhatIsBest() {
        beyond("better: BEYOND for part, ahead of NONE", x -> x.better(12, 60));
        beyond("better: BEYOND for n, ahead of NONE", x -> x.better(10, 61));
        beyond("weight: BEYOND for the cook, ahead of NONE", x -> x.weight(3, 10, 20, 1));
        beyond("weight: BEYOND for part, ahead of NONE", x -> x.weight(1, 12, 20, 99999));
        beyond("weight: BEYOND for n, ahead of NONE", x -> x.weight(1, 10, 21, 1));
        beyond("weight: BEYOND for v, ahead of NONE", x -> x.weight(1, 10, 20, 100000));
    }

    private static void orderOfTheText() {
        holds("feed: BEYOND above, ahead of FULL", Due.BEYOND, TAPE_OF_118, x -> x.feed(32, 5));
        holds("feed: BEYOND below, ahead of FULL", Due.BEYOND, TAPE_OF_118, x -> x.feed(32, 0));
        holds("feed: no wrap-around ahead of it", Due.BEYOND, TAPE_OF_118, x -> x.feed(32, Integer.MAX_VALUE));
    }

    private static void orderOfSheets() {
        beyond("sheet: BEYOND for the sheet, ahead of SIZE", x -> x.sheet(4, 8, -1));
        beyond("sheet: BEYOND for bits, ahead of SIZE", x -> x.sheet(0, 7, -1));
        holds("write: MISSING, ahead of BEYOND for the number", Due.MISSING, AS_IT_IS, x -> x.write(3, -1, 9));
        beyond("copy: BEYOND for the first, ahead of MISSING", x -> x.copy(4, 0, 3, 0, 1));
        beyond("copy: BEYOND for the other, ahead of MISSING", x -> x.copy(3, 0, 4, 0, 1));
        holds("copy: MISSING, ahead of KIND and BEYOND", Due.MISSING, AS_IT_IS, x -> x.copy(0, -1, 3, 99, -1));
        holds("copy: MISSING for the first, too", Due.MISSING, AS_IT_IS, x -> x.copy(3, -1, 0, 99, -1));
        holds("copy: KIND, ahead of BEYOND for from", Due.KIND, AS_IT_IS, x -> x.copy(0, -1, 1, 0, 1));
        holds("copy: KIND, ahead of BEYOND for to", Due.KIND, AS_IT_IS, x -> x.copy(0, 0, 1, -1, 1));
        holds("copy: KIND, ahead of BEYOND for n", Due.KIND, AS_IT_IS, x -> x.copy(0, 0, 1, 0, 99));
        holds("copy: KIND, of none too", Due.KIND, AS_IT_IS, x -> x.copy(0, 0, 2, 0, 0));
        beyond("book: BEYOND for the sheet, ahead of MISSING", x -> x.book(4, 12));
        holds("book: MISSING, ahead of BEYOND for part", Due.MISSING, AS_IT_IS, x -> x.book(3, 12));
        beyond("read: BEYOND for the sheet, ahead of MISSING", x -> x.read(-1, 12, 9));
        holds("read: MISSING, ahead of BEYOND for part", Due.MISSING, AS_IT_IS, x -> x.read(3, 12, 0));
        holds("read: MISSING, ahead of BEYOND for the cook", Due.MISSING, AS_IT_IS, x -> x.read(3, 0, 9));
    }

    /** An answer far below 0 that a sheet was given is a number, and a fault of a text is none either. */
    private static void noFindings() {
        Due.sentence("status: How many acts answered a finding ever");
        StockPot x = new StockPot();
        x.sheet(0, 64, 1);
        x.write(0, 0, Due.BEYOND);
        Due.is("write: a number that looks like one", x.write(0, 0, 5), Due.BEYOND);
        Due.is("status(-1) behind it", x.status(-1), 0);
        x.college();
        Due.lay(x, "cook puts 12");
        x.college();
        x.wipe();
        x.image();
        x.tear();
        x.tear();
        Due.is("status(-1) behind faults, wipe, image, tear", x.status(-1), 0);
    }
}
