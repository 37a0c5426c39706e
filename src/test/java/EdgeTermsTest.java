/** The boundary cases that 'Terms' 1 to 3 name, a method for each sentence; the text has EdgeTextTest. */
public final class EdgeTermsTest {
    private static final int ALL_MOST = 99999;

    public static void main(String[] args) {
        quotientsAreCut();
        setsAreToldByBits();
        parts();
        grainsAtFirst();
        grainsFromLeastToMost();
        allAtMost();
        taste();
        tasteOfNothing();
        vague();
        yearAtFirstAndAtMost();
        cooksAtMost();
        inTurnByYears();
        kindsUnderKinds();
        cookAtFirst();
        takesByKinds();
        takesOfStatute();
        takesNoMoreThanAll();
        putsByKinds();
        putsOfStatute();
        putsOfBlitz();
        whatByKinds();
        whatOfStatute();
        whatOfBlitz();
        takingIsCut();
        takingOneMoreByNumbers();
        takingPassesEmptyParts();
        takingNothingAndAll();
        yearWithoutCooks();
        yearTakesThenPuts();
        yearNoMoreThanAll();
        onChangesNothing();
        onBehindTheLastYear();
        onAsInAYearOfTheSameRests();
        sheetsAtFirst();
        Due.end("EdgeTermsTest");
    }

    private static void quotientsAreCut() {
        Due.sentence("Quotients are cut.");
        Due.is("taste of 2 by 3", Due.potOf(1, 2).taste(1), 666);
        StockPot x = Due.inYear(Due.potOf(0, 99), 1);
        Due.addCook(x, 1, 1, 99, 0);
        Due.addCook(x, 5, 1, 99, 0);
        Due.is("half of 99", x.of(0, 4), 49);
        Due.is("99, and a tenth of 99, less half of 99", x.of(1, 5), 99 + 9 - 49);
    }

    private static void setsAreToldByBits() {
        Due.sentence("Sets are told by bits.");
        for (int part = 0; part < 12; part++) {
            Due.is("now(3) with part " + part + " alone", Due.potWith(part, 1).now(3), 1 << part);
        }
        Due.is("now(3) with all parts", Due.potOf(1, 1, 1, 1, 1, 1, 1, 1, 1, 1, 1, 1).now(3), 4095);
        Due.is("now(3) of nothing", Due.empty().now(3), 0);
        Due.is("dull(1) by eight", Due.withCooks(new StockPot(), 8).dull(1), 255);
        Due.is("dull(1) by none", new StockPot().dull(1), 0);
    }

    private static void parts() {
        Due.sentence("PARTS 0 to 11 (0 is WATER)");
        Due.range("grains", 0, 11, part -> new StockPot().grains(part));
        Due.range("pour", 0, 11, part -> new StockPot().pour(part, 7));
        StockPot x = Due.potWith(11, 100);
        Due.addCook(x, 3, 11, 100, 0);
        x.years(1);
        Due.amounts("water of a watery cook", x, 100);
    }

    private static void grainsAtFirst() {
        Due.sentence("GRAINS: 0 at first, but of PART 0 1000");
        StockPot x = new StockPot();
        for (int part = 0; part < 12; part++) {
            Due.is("grains(" + part + ")", x.grains(part), part == 0 ? 1000 : 0);
        }
    }

    private static void grainsFromLeastToMost() {
        Due.sentence("GRAINS in THE POT (0 to 99999)");
        for (int part = 0; part < 12; part++) {
            StockPot x = Due.empty();
            Due.is("pour(" + part + ", 99999)", x.pour(part, ALL_MOST), 0);
            Due.is("grains(" + part + ")", x.grains(part), ALL_MOST);
            Due.is("pour(" + part + ", 100000)", x.pour(part, ALL_MOST + 1), Due.BEYOND);
            Due.is("pour(" + part + ", 0)", x.pour(part, 0), ALL_MOST);
            Due.is("pour(" + part + ", -1)", x.pour(part, -1), Due.BEYOND);
            Due.is("grains(" + part + ")", x.grains(part), 0);
        }
    }

    /** Every way by which grains come: pour, a year, a sheet, a text. */
    private static void allAtMost() {
        Due.sentence("ALL: GRAINS of all PARTS together (99999 at most)");
        StockPot x = Due.potOf(8888, 8888, 8888, 8888, 8888, 8888, 8888, 8888, 8888, 8888, 8888, 2231);
        Due.is("twelve parts", x.now(1), ALL_MOST);
        for (int part = 0; part < 12; part++) {
            Due.is("pour one more of " + part, x.pour(part, x.grains(part) + 1), Due.FULL);
        }
        x.sheet(0, 64, 12);
        x.write(0, 0, 8889);
        for (int part = 1; part < 12; part++) {
            x.write(0, part, x.grains(part));
        }
        Due.is("lays one more of 0, and the others as they are", x.lays(0), 11);
        Due.is("ALL by a sheet", x.now(1), ALL_MOST);
        Due.is("one more of 0 by a text", Due.college(x, "part 0 8889"), -1 - 7);
        Due.is("ALL by a text", x.now(1), ALL_MOST);
        x.cook(0);
        Due.is("ALL by a year", x.years(1), ALL_MOST);
        int sum = 0;
        for (int part = 0; part < 12; part++) {
            sum += x.grains(part);
        }
        Due.is("all grains by a year", sum, ALL_MOST);
    }

    private static void taste() {
        Due.sentence("TASTE of a PART: a thousand times its GRAINS by ALL");
        StockPot x = Due.potOf(ALL_MOST - 99, 99);
        Due.is("99 of 99999", x.taste(1), 0);
        Due.is("all but 99", x.taste(0), 999);
        x.pour(0, ALL_MOST - 100);
        x.pour(1, 100);
        Due.is("100 of 99999", x.taste(1), 1);
        Due.is("all but 100", x.taste(0), 998);
        Due.is("one grain alone", Due.potWith(11, 1).taste(11), 1000);
        Due.is("99999 alone", Due.potWith(11, ALL_MOST).taste(11), 1000);
        Due.is("none of it", Due.potWith(11, ALL_MOST).taste(10), 0);
    }

    private static void tasteOfNothing() {
        Due.sentence("TASTE: 0, if ALL is 0");
        StockPot x = Due.empty();
        x.sheet(0, 64, 1);
        x.write(0, 0, 5);
        for (int part = 0; part < 12; part++) {
            Due.is("taste(" + part + ")", x.taste(part), 0);
            Due.is("on(" + part + ", 0, 1)", x.on(part, 0, 1), 0);
            Due.is("on(" + part + ", 100, 1)", x.on(part, 100, 1), 0);
        }
        x.book(0, 0);
        Due.is("book(0, 0)", x.write(0, 0, 0), 0);
    }

    private static void vague() {
        Due.sentence("VAGUE: TASTE of WATER is above 500");
        Due.is("499", Due.potOf(499, 501).now(4), 0);
        Due.is("500", Due.potOf(500, 500).now(4), 0);
        Due.is("500 and a rest", Due.potOf(50099, 49900).now(4), 0);
        Due.is("501", Due.potOf(501, 499).now(4), 1);
        Due.is("501 of many", Due.potOf(50100, 49899).now(4), 1);
        Due.is("1000", Due.potOf(1).now(4), 1);
        Due.is("nothing", Due.empty().now(4), 0);
        Due.is("another part alone", Due.potWith(1, 1).now(4), 0);
    }

    private static void yearAtFirstAndAtMost() {
        Due.sentence("YEAR: 0 at first (9999 at most)");
        StockPot x = new StockPot();
        Due.is("at first", x.now(0), 0);
        Due.inYear(x, 9999);
        Due.is("at most", x.now(0), 9999);
        Due.is("one more", x.years(1), Due.STATE);
        Due.is("at most still", x.now(0), 9999);
    }

    private static void cooksAtMost() {
        Due.sentence("COOKS 0, 1, .. (at most 8)");
        StockPot x = new StockPot();
        for (int cook = 0; cook < 8; cook++) {
            Due.is("of(" + cook + ", 0) ahead of it", x.of(cook, 0), Due.BEYOND);
            Due.is("cook", x.cook(5), cook);
            Due.is("of(" + cook + ", 0)", x.of(cook, 0), 5);
        }
        Due.is("a ninth", x.cook(5), Due.FULL);
        Due.is("a ninth by a text", Due.college(x, "blitz"), -1);
        Due.is("of(8, 0)", x.of(8, 0), Due.BEYOND);
        Due.is("count(0)", x.count(0), 8);
    }

    private static void inTurnByYears() {
        Due.sentence("in turn by years (YEAR's rest by how many there are)");
        for (int many = 1; many <= 8; many++) {
            StockPot x = new StockPot();
            for (int cook = 0; cook < many; cook++) {
                Due.addCook(x, 0, cook + 1, 0, 1);
            }
            for (int year = 0; year < 2 * many; year++) {
                Due.is("now(2) in year " + year + " of " + many, x.now(2), year % many);
                int before = x.grains(year % many + 1);
                x.years(1);
                Due.is("who put in year " + year + " of " + many, x.grains(year % many + 1), before + 1);
            }
        }
        StockPot x = Due.withCooks(Due.inYear(new StockPot(), 9999), 8);
        Due.is("now(2) in the last year", x.now(2), 7);
    }

    private static void kindsUnderKinds() {
        Due.sentence("0 COOK, 1 FRUGAL under COOK, .. 4 STATUTE under FRUGAL, 5 BLITZ under GRAND");
        int[] above = {-1, 0, 0, 0, 1, 2};
        for (int kind = 0; kind < 6; kind++) {
            StockPot x = new StockPot();
            x.cook(kind);
            Due.is("as itself, " + kind, x.as(0, kind), 100);
            for (int other = 0; other < 6; other++) {
                boolean isUnder = other == kind || other == above[kind] || other == 0;
                Due.is("as(0, " + other + ") of " + kind, x.as(0, other), isUnder ? 100 : Due.KIND);
            }
        }
    }

    private static void cookAtFirst() {
        Due.sentence("a PART (1 at first), a WEIGHT (0 to 999; 100 at first), a MERIT (0 to 9; 5 at first)");
        StockPot x = new StockPot();
        for (int kind = 0; kind < 6; kind++) {
            x.cook(kind);
            Due.is("PART of " + kind, x.of(kind, 1), 1);
            Due.is("WEIGHT of " + kind, x.of(kind, 2), 100);
            Due.is("MERIT of " + kind, x.of(kind, 3), 5);
        }
        Due.range("WEIGHT", 0, 999, v -> Due.withCooks(new StockPot(), 1).set(0, 2, v));
        Due.range("MERIT", 0, 9, v -> Due.withCooks(new StockPot(), 1).set(0, 3, v));
        Due.range("PART", 0, 11, v -> Due.withCooks(new StockPot(), 1).set(0, 1, v));
        // As at first again, though another cook was there and was taken back.
        x = new StockPot();
        x.image();
        Due.addCook(x, 5, 9, 8, 7);
        x.undo();
        x.cook(0);
        Due.is("PART of a later one", x.of(0, 1), 1);
        Due.is("WEIGHT of a later one", x.of(0, 2), 100);
        Due.is("MERIT of a later one", x.of(0, 3), 5);
    }

    private static void takesByKinds() {
        Due.sentence("TAKES: COOK: WEIGHT. FRUGAL: half of as COOK. GRAND: as COOK, and 50. .. BLITZ: twice as GRAND.");
        int[] weights = {0, 1, 2, 99, 998, 999};
        int[][] due = {
            {0, 0, 50, 0, 0, 100}, {1, 0, 51, 1, 0, 102}, {2, 1, 52, 2, 1, 104},
            {99, 49, 149, 99, 49, 298}, {998, 499, 1048, 998, 499, 2096}, {999, 499, 1049, 999, 499, 2098},
        };
        for (int i = 0; i < weights.length; i++) {
            StockPot x = Due.inYear(Due.potWith(0, ALL_MOST), 1);
            for (int kind = 0; kind < 6; kind++) {
                Due.addCook(x, kind, 1, weights[i], 0);
                Due.is("kind " + kind + " of weight " + weights[i], x.of(kind, 4), due[i][kind]);
            }
        }
    }

    private static void takesOfStatute() {
        Due.sentence("STATUTE: as FRUGAL, but 0 in years whose rest by 7 is 0.");
        int[] years = {0, 1, 6, 7, 8, 13, 14, 15, 9995, 9996, 9997, 9999};
        for (int year : years) {
            StockPot x = Due.inYear(new StockPot(), year);
            x.cook(4);
            x.cook(1);
            boolean isNought = year == 0 || year == 7 || year == 14 || year == 9996;
            Due.is("statute in year " + year, x.of(0, 4), isNought ? 0 : 50);
            Due.is("frugal in year " + year, x.of(1, 4), 50);
        }
    }

    private static void takesNoMoreThanAll() {
        Due.sentence("TAKES: (No more than a.)");
        int[] due = {999, 499, 1049, 999, 499, 2098};
        for (int kind = 0; kind < 6; kind++) {
            for (int all = due[kind] - 1; all <= due[kind] + 1; all++) {
                StockPot x = Due.inYear(Due.potWith(6, all), 1);
                Due.addCook(x, kind, 6, 999, 0);
                Due.is("kind " + kind + " of " + all, x.of(0, 4), Math.min(all, due[kind]));
            }
            StockPot x = Due.inYear(Due.empty(), 1);
            Due.addCook(x, kind, 6, 999, 0);
            Due.is("kind " + kind + " of nothing", x.of(0, 4), 0);
            x.pour(6, 1);
            Due.is("kind " + kind + " of 1", x.of(0, 4), 1);
        }
    }

    private static StockPot sixOfMerit(int all, int merit) {
        StockPot x = Due.inYear(Due.potWith(7, all), 1);
        for (int kind = 0; kind < 6; kind++) {
            Due.addCook(x, kind, 7, 999, merit);
        }
        return x;
    }

    private static void putsByKinds() {
        Due.sentence("PUTS: COOK: t, and MERIT. .. GRAND: as COOK, and a tenth of t. WATERY: t.");
        int[][] due = {
            {0, 0, 0, 0, 0, 0}, {1, 1, 1, 1, 0, 1}, {9, 9, 9, 9, 4, 5}, {10, 10, 11, 10, 5, 6},
            {11, 11, 12, 11, 6, 7}, {19, 19, 20, 19, 14, 11}, {20, 20, 22, 20, 15, 12},
        };
        for (int[] row : due) {
            int taken = row[0];
            StockPot x = sixOfMerit(taken, 0);
            for (int kind = 0; kind < 6; kind++) {
                Due.is("kind " + kind + " behind " + taken, x.of(kind, 5), row[kind]);
            }
        }
        int[] ofMerit = {19, 19, 20, 10, 14, 15};
        StockPot x = sixOfMerit(10, 9);
        for (int kind = 0; kind < 6; kind++) {
            Due.is("kind " + kind + " of merit 9 behind 10", x.of(kind, 5), ofMerit[kind]);
        }
    }

    private static void putsOfStatute() {
        Due.sentence("PUTS: STATUTE: as FRUGAL, less 5 (0 at least).");
        for (int merit = 0; merit <= 9; merit++) {
            StockPot x = new StockPot();
            Due.addCook(x, 4, 1, 100, merit);
            Due.is("behind 0, of merit " + merit, x.of(0, 5), Math.max(0, merit - 5));
            x.years(1);
            Due.is("by a year, of merit " + merit, x.now(1), 1000 + Math.max(0, merit - 5));
        }
        int[] due = {0, 0, 0, 0, 0, 0, 1, 2};
        for (int taken = 0; taken < due.length; taken++) {
            Due.is("of merit 0, behind " + taken, sixOfMerit(taken, 0).of(4, 5), due[taken]);
        }
    }

    /** It never comes below 0 by these numbers: half of t is no more than t. */
    private static void putsOfBlitz() {
        Due.sentence("PUTS: BLITZ: as GRAND, less half of t (0 at least).");
        int[] due = {0, 1, 1, 2, 2, 3, 3, 4, 4, 5, 6};
        for (int taken = 0; taken < due.length; taken++) {
            Due.is("of merit 0, behind " + taken, sixOfMerit(taken, 0).of(5, 5), due[taken]);
        }
        Due.is("of merit 9, behind 0", sixOfMerit(0, 9).of(5, 5), 9);
        Due.is("of merit 9, behind 2098", sixOfMerit(2098, 9).of(5, 5), 2098 + 9 + 209 - 1049);
    }

    private static void whatByKinds() {
        Due.sentence("OF WHAT: COOK: its PART. .. WATERY: 0.");
        for (int part = 0; part < 12; part += 11) {
            StockPot x = Due.inYear(new StockPot(), 1);
            for (int kind = 0; kind < 6; kind++) {
                Due.addCook(x, kind, part, 100, 5);
                Due.is("kind " + kind + " of part " + part, x.of(kind, 6), kind == 3 ? 0 : part);
            }
        }
    }

    private static void whatOfStatute() {
        Due.sentence("OF WHAT: STATUTE: as FRUGAL, but 3 in years whose rest by 5 is 0.");
        int[] years = {0, 1, 4, 5, 6, 9, 10, 11, 9994, 9995, 9996, 9999};
        for (int year : years) {
            StockPot x = Due.inYear(new StockPot(), year);
            Due.addCook(x, 4, 8, 0, 9);
            Due.addCook(x, 1, 8, 0, 9);
            boolean isThree = year == 0 || year == 5 || year == 10 || year == 9995;
            Due.is("statute in year " + year, x.of(0, 6), isThree ? 3 : 8);
            Due.is("frugal in year " + year, x.of(1, 6), 8);
        }
    }

    private static void whatOfBlitz() {
        Due.sentence("OF WHAT: BLITZ: as GRAND, but 11, if ALL is below 500 (as the YEAR began).");
        int[] alls = {0, 1, 499, 500, 501};
        for (int all : alls) {
            StockPot x = Due.potWith(2, all);
            Due.addCook(x, 5, 4, 100, 9);
            Due.addCook(x, 2, 4, 100, 9);
            Due.is("blitz of " + all, x.of(0, 6), all < 500 ? 11 : 4);
            Due.is("grand of " + all, x.of(1, 6), 4);
            // It takes 300, so what it leaves is below 500 for each of these.
            x.years(1);
            Due.is("11 by a year of " + all, x.grains(11) > 0 ? 1 : 0, all < 500 ? 1 : 0);
            Due.is("its own by a year of " + all, x.grains(4) > 0 ? 1 : 0, all < 500 ? 0 : 1);
        }
    }

    private static void takingIsCut() {
        Due.sentence("To TAKE t: of each PART its GRAINS times t by ALL (cut)");
        StockPot x = Due.potOf(50000, 30000, 19999);
        x.spoon(999);
        // 499.5.., 299.7.. and 199.7.. are cut to 997 together, so parts 0 and 1 give one more.
        Due.amounts("999 of a full pot", x, 49500, 29700, 19800);
        x = Due.potOf(600, 400);
        x.spoon(5);
        Due.amounts("without a rest", x, 597, 398);
    }

    private static void takingOneMoreByNumbers() {
        Due.sentence("then, as long as that is less than t together, one GRAIN more of each PART by numbers");
        for (int t = 1; t <= 12; t++) {
            StockPot x = Due.potOf(1, 1, 1, 1, 1, 1, 1, 1, 1, 1, 1, 1);
            Due.is("spoonOf(" + (t - 1) + ", " + t + ")", x.spoonOf(t - 1, t), 1);
            Due.is("spoonOf(11, " + t + ")", x.spoonOf(11, t), t == 12 ? 1 : 0);
            x.spoon(t);
            for (int part = 0; part < 12; part++) {
                Due.is("spoon(" + t + "), grains(" + part + ")", x.grains(part), part < t ? 0 : 1);
            }
        }
        StockPot x = Due.potOf(3, 3, 3, 3, 3, 3, 3, 3, 3, 3, 3, 3);
        x.spoon(23);
        // 23 by 12 is cut to 1, and eleven parts give one more.
        Due.amounts("spoon(23) of 36", x, 1, 1, 1, 1, 1, 1, 1, 1, 1, 1, 1, 2);
    }

    private static void takingPassesEmptyParts() {
        Due.sentence("one GRAIN more of each PART by numbers, of which any is left");
        StockPot x = Due.potOf(0, 0, 2, 0, 2, 0, 0, 0, 0, 0, 0, 2);
        x.spoon(1);
        Due.amounts("one of six", x, 0, 0, 1, 0, 2, 0, 0, 0, 0, 0, 0, 2);
        x.spoon(2);
        Due.amounts("two of five", x, 0, 0, 0, 0, 1, 0, 0, 0, 0, 0, 0, 2);
        x = Due.potWith(11, 5);
        x.spoon(4);
        Due.amounts("the last part alone", x, 0, 0, 0, 0, 0, 0, 0, 0, 0, 0, 0, 1);
    }

    private static void takingNothingAndAll() {
        Due.sentence("To TAKE t (no more than ALL) of THE POT");
        StockPot x = Due.potOf(3, 0, 5);
        Due.is("all but one", x.spoon(7), 7);
        Due.is("the one that is left", x.now(1), 1);
        x = Due.potOf(3, 0, 5);
        Due.is("all of it", x.spoon(8), 8);
        Due.amounts("all of it", x);
        x = Due.potOf(3, 0, 5);
        Due.is("more than all of it", x.spoon(9), 8);
        Due.amounts("more than all of it", x);
        Due.is("of nothing", x.spoon(1), 0);
        Due.amounts("of nothing", x);
        x = Due.potOf(3, 0, 5);
        Due.addCook(x, 0, 1, 0, 0);
        x.years(1);
        Due.amounts("a cook that takes 0", x, 3, 0, 5);
    }

    private static void yearWithoutCooks() {
        Due.sentence("A YEAR goes: the COOK whose turn it is (if there are COOKS). YEAR is 1 more.");
        StockPot x = Due.potOf(3, 0, 5);
        Due.is("years(1)", x.years(1), 8);
        Due.amounts("years(1)", x, 3, 0, 5);
        Due.is("now(0)", x.now(0), 1);
        Due.is("years(100)", x.years(100), 8);
        Due.is("now(0)", x.now(0), 101);
    }

    private static void yearTakesThenPuts() {
        Due.sentence("A YEAR goes: the COOK whose turn it is TAKES; then it PUTS");
        StockPot x = Due.potWith(4, 100);
        Due.addCook(x, 0, 4, 100, 0);
        x.years(1);
        Due.amounts("all of it, and back", x, 0, 0, 0, 0, 100);
        x = Due.potWith(4, 100);
        Due.addCook(x, 0, 6, 999, 9);
        x.years(1);
        Due.amounts("all of it, for another", x, 0, 0, 0, 0, 0, 0, 109);
        x = Due.empty();
        Due.addCook(x, 0, 6, 999, 9);
        Due.is("into nothing", x.years(1), 9);
        Due.amounts("into nothing", x, 0, 0, 0, 0, 0, 0, 9);
    }

    private static void yearNoMoreThanAll() {
        Due.sentence("then it PUTS (no more than that ALL is 99999)");
        int[] alls = {99993, 99994, 99995, 99998, 99999};
        int[] due = {99998, 99999, 99999, 99999, 99999};
        for (int i = 0; i < alls.length; i++) {
            StockPot x = Due.potWith(2, alls[i]);
            Due.addCook(x, 0, 1, 100, 5);
            Due.is("years(1) of " + alls[i], x.years(1), due[i]);
            Due.amounts("years(1) of " + alls[i], x, 0, due[i] - alls[i] + 100, alls[i] - 100);
        }
        StockPot x = Due.potWith(2, ALL_MOST);
        Due.addCook(x, 0, 1, 0, 9);
        Due.is("no room at all", x.years(1), ALL_MOST);
        Due.amounts("no room at all", x, 0, 0, ALL_MOST);
    }

    private static void onChangesNothing() {
        Due.sentence("ON: n YEARS go on with all as it is; nothing changes.");
        StockPot x = Due.potOf(300, 200);
        Due.addCook(x, 4, 2, 31, 8);
        Due.addCook(x, 5, 7, 12, 1);
        x.years(5);
        x.sheet(0, 64, 40);
        int[] before = new int[12];
        for (int part = 0; part < 12; part++) {
            before[part] = x.grains(part);
        }
        x.on(0, 100, 0);
        x.vague();
        x.gone(0, 0);
        x.strong(9, 1000);
        x.better(0, 60);
        x.weight(0, 0, 20, ALL_MOST);
        x.kind(0, 0, 60);
        x.puts(0, 60);
        x.best(100);
        x.dull(60);
        x.book(0, 0);
        x.read(0, 0, 1);
        Due.amounts("the pot", x, before);
        Due.is("the year", x.now(0), 5);
        int[][] cooks = {{4, 2, 31, 8}, {5, 7, 12, 1}};
        for (int cook = 0; cook < 2; cook++) {
            for (int what = 0; what < 4; what++) {
                Due.is("of(" + cook + ", " + what + ")", x.of(cook, what), cooks[cook][what]);
            }
        }
        Due.is("the image that isn't kept", x.undo(), Due.NONE);
    }

    /** YEARS go on there as everywhere: turns, carrots and all by the YEAR's rest. */
    private static void onBehindTheLastYear() {
        Due.sentence("ON: n YEARS go on (in the last YEAR)");
        StockPot x = Due.inYear(Due.potWith(5, 900), 9999);
        Due.addCook(x, 4, 8, 0, 9);
        Due.is("no carrots on 1", x.on(3, 1, 0), 0);
        Due.is("part 8 on 1", x.on(8, 1, 0), 4);
        Due.is("carrots in 10000, on 2", x.on(3, 2, 0), 4);
        Due.is("gone(5, 899)", x.gone(5, 899), Due.NONE);
        Due.is("strong(3, 4)", x.strong(3, 4), 2);
        x = Due.inYear(Due.potWith(5, 900), 9999);
        Due.addCook(x, 0, 1, 0, 1);
        Due.addCook(x, 0, 2, 0, 1);
        Due.is("cook 1 in 9999", x.on(2, 1, 0), 1);
        Due.is("cook 0 not yet", x.on(1, 1, 0), 0);
        Due.is("cook 0 in 10000", x.on(1, 2, 0), 1);
        Due.is("both by turns", x.on(1, 100, 0), 50);
        Due.is("the year stays", x.now(0), 9999);
    }

    private static StockPot threeCooksIn(int year) {
        StockPot x = Due.inYear(Due.potOf(700, 90, 0, 40, 0, 0, 8), year);
        Due.addCook(x, 4, 8, 120, 9);
        Due.addCook(x, 5, 6, 10, 2);
        Due.addCook(x, 3, 1, 60, 5);
        x.sheet(0, 16, 40);
        return x;
    }

    /** 9999 and 24 have the same rest by 3, by 5 and by 7, so three cooks go on alike from both. */
    private static void onAsInAYearOfTheSameRests() {
        Due.sentence("ON: n YEARS go on with all as it is (in the last YEAR, every question)");
        StockPot last = threeCooksIn(9999);
        StockPot early = threeCooksIn(24);
        for (int part = 0; part < 12; part++) {
            Due.is("on(" + part + ", 100, 0)", last.on(part, 100, 0), early.on(part, 100, 0));
            Due.is("on(" + part + ", 100, 1)", last.on(part, 100, 1), early.on(part, 100, 1));
            Due.is("gone(" + part + ", 9)", last.gone(part, 9), early.gone(part, 9));
            Due.is("strong(" + part + ", 50)", last.strong(part, 50), early.strong(part, 50));
            Due.is("better(" + part + ", 60)", last.better(part, 60), early.better(part, 60));
            Due.is("weight(0, " + part + ", 20, 30)", last.weight(0, part, 20, 30), early.weight(0, part, 20, 30));
            Due.is("kind(0, " + part + ", 60)", last.kind(0, part, 60), early.kind(0, part, 60));
        }
        Due.is("vague()", last.vague(), early.vague());
        Due.is("puts(0, 60)", last.puts(0, 60), early.puts(0, 60));
        Due.is("best(100)", last.best(100), early.best(100));
        Due.is("dull(60)", last.dull(60), early.dull(60));
        Due.is("book(0, 8)", last.book(0, 8), early.book(0, 8));
        Due.is("read(0, 8, 0)", last.read(0, 8, 0), early.read(0, 8, 0));
        for (int i = 0; i < 40; i++) {
            Due.is("number " + i, last.write(0, i, 0), early.write(0, i, 0));
        }
        Due.is("findings", last.status(-1), early.status(-1));
        Due.is("the last year stays", last.now(0), 9999);
    }

    private static void sheetsAtFirst() {
        Due.sentence("SHEETS 0 to 3 are rows of at most 40 numbers of 8, 16 or 64 bits, or MISSING (at first).");
        StockPot x = new StockPot();
        for (int s = 0; s < 4; s++) {
            Due.is("at first, write(" + s + ", 0, 0)", x.write(s, 0, 0), Due.MISSING);
            for (int bits : new int[] {8, 16, 64}) {
                Due.is("sheet(" + s + ", " + bits + ", 40)", x.sheet(s, bits, 40), 40);
                Due.is("the last number", x.write(s, 39, 1), 0);
                Due.is("behind it", x.write(s, 40, 1), Due.BEYOND);
                Due.is("sheet(" + s + ", " + bits + ", 41)", x.sheet(s, bits, 41), Due.BEYOND);
            }
        }
        Due.range("sheet", 0, 3, s -> new StockPot().sheet(s, 8, 1));
    }
}
