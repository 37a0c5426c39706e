/** A pot that has never been let go out, its cooks, and what becomes of it by years. */
public final class StockPot {
    private static final int FIRST_FINDING = -1000000001;
    private static final int BEYOND = 0;
    private static final int FULL = 1;
    private static final int KIND = 2;
    private static final int NONE = 3;
    private static final int STATE = 4;
    private static final int MISSING = 5;
    private static final int SIZE = 6;
    private static final int FINDINGS = 7;

    private static final int PARTS = 12;
    private static final int WATER = 0;
    private static final int STATUTE_PART = 3;
    private static final int BLITZ_PART = 11;
    private static final int ALL_MOST = 99999;
    private static final int WHOLE_TASTE = 1000;
    private static final int SPOON_MOST = 999;
    private static final int YEAR_MOST = 9999;

    private static final int COOKS_MOST = 8;
    private static final int WEIGHT_MOST = 999;
    private static final int MERIT_MOST = 9;
    private static final int KINDS = 6;
    private static final int COOK = 0;
    private static final int FRUGAL = 1;
    private static final int GRAND = 2;
    private static final int WATERY = 3;
    private static final int STATUTE = 4;
    private static final int BLITZ = 5;

    private static final int LONG_WHILE = 100;
    private static final int SHORT_WHILE = 60;
    private static final int WEIGHED_WHILE = 20;
    private static final int SEARCHED_WHILE = 200;

    private static final int TAPE_MOST = 120;
    private static final int NUMBER_MOST = 9999;
    private static final int SHEETS = 4;
    private static final int SHEET_MOST = 40;

    private final Pot pot = new Pot();
    private final Pot keptPot = new Pot();
    private final Pot trial = new Pot();
    private final Tape tape = new Tape();
    private final Sheet[] sheets = new Sheet[SHEETS];
    private final int[] tally = new int[FINDINGS];
    private boolean isKept;

    public StockPot() {
        for (int s = 0; s < SHEETS; s++) {
            sheets[s] = new Sheet();
        }
    }

    // ---- the pot

    public int grains(int part) {
        return isPart(part) ? pot.amounts[part] : finding(BEYOND);
    }

    public int pour(int part, int v) {
        if (!isPart(part) || !isWithin(v, 0, ALL_MOST)) {
            return finding(BEYOND);
        }
        if (!pot.hasRoom(part, v)) {
            return finding(FULL);
        }
        int before = pot.amounts[part];
        pot.fill(part, v);
        return before;
    }

    public int taste(int part) {
        return isPart(part) ? pot.tasteOf(part) : finding(BEYOND);
    }

    public int spoon(int t) {
        return isWithin(t, 1, SPOON_MOST) ? pot.takeOut(t) : finding(BEYOND);
    }

    public int spoonOf(int part, int t) {
        if (!isPart(part) || !isWithin(t, 1, SPOON_MOST)) {
            return finding(BEYOND);
        }
        pot.measure(t);
        return pot.ladle[part];
    }

    // ---- cooks

    public int cook(int kind) {
        if (!isKind(kind)) {
            return finding(BEYOND);
        }
        return pot.isStaffed() ? finding(FULL) : pot.hire(kind);
    }

    public int of(int cook, int what) {
        if (!isCook(cook)) {
            return finding(BEYOND);
        }
        switch (what) {
            case 0: return pot.kinds[cook];
            case 1: return pot.parts[cook];
            case 2: return pot.weights[cook];
            case 3: return pot.merits[cook];
            case 4: return pot.takesBy(cook);
            case 5: return pot.putsBy(cook, pot.takesBy(cook));
            case 6: return pot.partPutBy(cook);
            default: return finding(BEYOND);
        }
    }

    public int set(int cook, int what, int v) {
        if (!isCook(cook)) {
            return finding(BEYOND);
        }
        switch (what) {
            case 1: return replace(pot.parts, cook, v, PARTS - 1);
            case 2: return replace(pot.weights, cook, v, WEIGHT_MOST);
            case 3: return replace(pot.merits, cook, v, MERIT_MOST);
            default: return finding(BEYOND);
        }
    }

    public int turn(int cook, int kind) {
        return isCook(cook) ? replace(pot.kinds, cook, kind, KINDS - 1) : finding(BEYOND);
    }

    public int as(int cook, int kind) {
        if (!isCook(cook) || !isKind(kind)) {
            return finding(BEYOND);
        }
        return isUnder(pot.kinds[cook], kind) ? pot.weights[cook] : finding(KIND);
    }

    public int swap(int cook, int other) {
        if (!isCook(cook) || !isCook(other) || cook == other) {
            return finding(BEYOND);
        }
        pot.exchange(cook, other);
        return 1;
    }

    // ---- years

    public int years(int n) {
        if (!isWithin(n, 1, LONG_WHILE)) {
            return finding(BEYOND);
        }
        if (pot.date + n > YEAR_MOST) {
            return finding(STATE);
        }
        pot.goOn(n);
        return pot.total;
    }

    public int now(int what) {
        switch (what) {
            case 0: return pot.date;
            case 1: return pot.total;
            case 2: return pot.whoseTurn();
            case 3: return pot.partsThere();
            case 4: return pot.isVague() ? 1 : 0;
            case 5: return pot.fullestPart();
            default: return finding(BEYOND);
        }
    }

    public int on(int part, int n, int what) {
        if (!isPart(part) || !isWithin(n, 0, LONG_WHILE) || !isWithin(what, 0, 1)) {
            return finding(BEYOND);
        }
        startTrial();
        trial.goOn(n);
        return what == 0 ? trial.amounts[part] : trial.tasteOf(part);
    }

    public int vague() {
        startTrial();
        for (int n = 0; n <= SEARCHED_WHILE; n++) {
            if (trial.isVague()) {
                return n;
            }
            trial.goOn(1);
        }
        return finding(NONE);
    }

    public int gone(int part, int v) {
        if (!isPart(part) || !isWithin(v, 0, ALL_MOST)) {
            return finding(BEYOND);
        }
        startTrial();
        for (int n = 0; n <= SEARCHED_WHILE; n++) {
            if (trial.amounts[part] <= v) {
                return n;
            }
            trial.goOn(1);
        }
        return finding(NONE);
    }

    public int strong(int part, int w) {
        if (!isPart(part) || !isWithin(w, 0, WHOLE_TASTE)) {
            return finding(BEYOND);
        }
        startTrial();
        for (int n = 0; n <= SEARCHED_WHILE; n++) {
            if (trial.tasteOf(part) >= w) {
                return n;
            }
            trial.goOn(1);
        }
        return finding(NONE);
    }

    // ---- what is best

    public int better(int part, int n) {
        if (!isPart(part) || !isWithin(n, 1, SHORT_WHILE)) {
            return finding(BEYOND);
        }
        startTrial();
        trial.goOn(n);
        int most = trial.amounts[part];
        int found = -1;
        for (int lesser = 0; lesser < pot.staff; lesser++) {
            for (int other = lesser + 1; other < pot.staff; other++) {
                startTrial();
                trial.exchange(lesser, other);
                trial.goOn(n);
                if (trial.amounts[part] > most) {
                    most = trial.amounts[part];
                    found = 10 * lesser + other;
                }
            }
        }
        return found < 0 ? finding(NONE) : found;
    }

    public int weight(int cook, int part, int n, int v) {
        if (!isCook(cook) || !isPart(part)) {
            return finding(BEYOND);
        }
        if (!isWithin(n, 1, WEIGHED_WHILE) || !isWithin(v, 0, ALL_MOST)) {
            return finding(BEYOND);
        }
        for (int heavy = 0; heavy <= WEIGHT_MOST; heavy++) {
            startTrial();
            trial.weights[cook] = heavy;
            trial.goOn(n);
            if (trial.amounts[part] >= v) {
                return heavy;
            }
        }
        return finding(NONE);
    }

    public int kind(int cook, int part, int n) {
        if (!isCook(cook) || !isPart(part) || !isWithin(n, 1, SHORT_WHILE)) {
            return finding(BEYOND);
        }
        int most = -1;
        int found = COOK;
        for (int role = 0; role < KINDS; role++) {
            startTrial();
            trial.kinds[cook] = role;
            trial.goOn(n);
            if (trial.amounts[part] > most) {
                most = trial.amounts[part];
                found = role;
            }
        }
        return found;
    }

    public int puts(int cook, int n) {
        if (!isCook(cook) || !isWithin(n, 1, SHORT_WHILE)) {
            return finding(BEYOND);
        }
        int there = pot.partsThere();
        int most = -1;
        int found = WATER;
        for (int part = 0; part < PARTS; part++) {
            startTrial();
            trial.parts[cook] = part;
            trial.goOn(n);
            int least = trial.leastTaste(there);
            if (least > most) {
                most = least;
                found = part;
            }
        }
        return found;
    }

    public int best(int n) {
        if (!isWithin(n, 0, LONG_WHILE)) {
            return finding(BEYOND);
        }
        startTrial();
        trial.goOn(n);
        int found = WATER + 1;
        for (int part = found + 1; part < PARTS; part++) {
            if (trial.tasteOf(part) > trial.tasteOf(found)) {
                found = part;
            }
        }
        return found;
    }

    public int dull(int n) {
        if (!isWithin(n, 1, SHORT_WHILE)) {
            return finding(BEYOND);
        }
        int found = 0;
        for (int cook = 0; cook < pot.staff; cook++) {
            startTrial();
            trial.waterAllBut(cook);
            trial.goOn(n);
            if (trial.isVague()) {
                found |= 1 << cook;
            }
        }
        return found;
    }

    // ---- the text

    public int feed(int bytes, int n) {
        if (!isWithin(n, 1, 4)) {
            return finding(BEYOND);
        }
        if (tape.length + n > TAPE_MOST) {
            return finding(FULL);
        }
        for (int behind = n - 1; behind >= 0; behind--) {
            tape.append((byte) (bytes >> (8 * behind)));
        }
        return tape.length;
    }

    public int wipe() {
        int before = tape.length;
        tape.length = 0;
        return before;
    }

    public int college() {
        startTrial();
        int answer = tape.tellTo(trial);
        tape.length = 0;
        if (answer >= 0) {
            pot.become(trial);
        }
        return answer;
    }

    // ---- sheets

    public int sheet(int s, int bits, int n) {
        if (!isSheet(s) || !isWidth(bits)) {
            return finding(BEYOND);
        }
        if (n < 0) {
            return finding(SIZE);
        }
        if (n > SHEET_MOST) {
            return finding(BEYOND);
        }
        sheets[s].layOut(bits, bits == 0 ? 0 : n);
        return sheets[s].size;
    }

    public long write(int s, int i, long v) {
        if (!isSheet(s)) {
            return finding(BEYOND);
        }
        Sheet sheet = sheets[s];
        if (sheet.isMissing()) {
            return finding(MISSING);
        }
        if (!isWithin(i, 0, sheet.size - 1)) {
            return finding(BEYOND);
        }
        long before = sheet.numbers[i];
        sheet.put(i, v);
        return before;
    }

    public int copy(int s, int from, int t, int to, int n) {
        if (!isSheet(s) || !isSheet(t)) {
            return finding(BEYOND);
        }
        Sheet source = sheets[s];
        Sheet target = sheets[t];
        if (source.isMissing() || target.isMissing()) {
            return finding(MISSING);
        }
        if (source.width != target.width) {
            return finding(KIND);
        }
        if (!source.hasRun(from, n) || !target.hasRun(to, n)) {
            return finding(BEYOND);
        }
        System.arraycopy(source.numbers, from, target.numbers, to, n);
        return n;
    }

    public int lays(int s) {
        if (!isSheet(s)) {
            return finding(BEYOND);
        }
        Sheet sheet = sheets[s];
        if (sheet.isMissing()) {
            return finding(MISSING);
        }
        int came = 0;
        for (int part = 0; part < PARTS && part < sheet.size; part++) {
            long number = sheet.numbers[part];
            // Asked as a long first: a wide number cut to an int could seem to fit.
            if (number >= 0 && number <= ALL_MOST && pot.hasRoom(part, (int) number)) {
                pot.fill(part, (int) number);
                came++;
            }
        }
        return came;
    }

    public int book(int s, int part) {
        if (!isSheet(s)) {
            return finding(BEYOND);
        }
        Sheet sheet = sheets[s];
        if (sheet.isMissing()) {
            return finding(MISSING);
        }
        if (!isPart(part)) {
            return finding(BEYOND);
        }
        startTrial();
        for (int n = 0; n < sheet.size; n++) {
            sheet.put(n, trial.tasteOf(part));
            trial.goOn(1);
        }
        return sheet.size;
    }

    public int read(int s, int part, int cook) {
        if (!isSheet(s)) {
            return finding(BEYOND);
        }
        Sheet sheet = sheets[s];
        if (sheet.isMissing()) {
            return finding(MISSING);
        }
        if (!isPart(part) || !isCook(cook)) {
            return finding(BEYOND);
        }
        int pairs = 0;
        for (int role = 0; role < KINDS; role++) {
            for (int own = 0; own < PARTS; own++) {
                startTrial();
                trial.kinds[cook] = role;
                trial.parts[cook] = own;
                if (tastesAsWritten(sheet, part)) {
                    pairs++;
                }
            }
        }
        return pairs;
    }

    // ---- images

    public int image() {
        keptPot.become(pot);
        isKept = true;
        return 1;
    }

    public int undo() {
        if (!isKept) {
            return finding(NONE);
        }
        pot.become(keptPot);
        return pot.staff;
    }

    public int tear() {
        int before = isKept ? 1 : 0;
        isKept = false;
        return before;
    }

    public int count(int what) {
        switch (what) {
            case 0: return pot.staff;
            case 1: return tape.length;
            case 2: return pot.weightOfAll();
            case 3: return PARTS - Integer.bitCount(pot.partsThere());
            default: return finding(BEYOND);
        }
    }

    public int status(int which) {
        if (!isWithin(which, -1, FINDINGS - 1)) {
            return finding(BEYOND);
        }
        if (which >= 0) {
            return tally[which];
        }
        int sum = 0;
        for (int f = 0; f < FINDINGS; f++) {
            sum += tally[f];
        }
        return sum;
    }

    // ---- what the calls share

    private int finding(int which) {
        tally[which]++;
        return FIRST_FINDING - which;
    }

    private void startTrial() {
        trial.become(pot);
    }

    private int replace(int[] row, int cook, int v, int most) {
        if (!isWithin(v, 0, most)) {
            return finding(BEYOND);
        }
        int before = row[cook];
        row[cook] = v;
        return before;
    }

    private boolean tastesAsWritten(Sheet sheet, int part) {
        for (int n = 0; n < sheet.size; n++) {
            if (trial.tasteOf(part) != sheet.numbers[n]) {
                return false;
            }
            trial.goOn(1);
        }
        return true;
    }

    private boolean isCook(int cook) {
        return isWithin(cook, 0, pot.staff - 1);
    }

    private static boolean isPart(int part) {
        return isWithin(part, 0, PARTS - 1);
    }

    private static boolean isKind(int kind) {
        return isWithin(kind, 0, KINDS - 1);
    }

    private static boolean isSheet(int s) {
        return isWithin(s, 0, SHEETS - 1);
    }

    private static boolean isWidth(int bits) {
        return bits == 0 || bits == 8 || bits == 16 || bits == 64;
    }

    private static boolean isWithin(int v, int least, int most) {
        return least <= v && v <= most;
    }

    private static boolean isUnder(int kind, int above) {
        return kind == above || above == COOK
            || kind == STATUTE && above == FRUGAL
            || kind == BLITZ && above == GRAND;
    }

    /** All that section 1 of the document tells, but for the tape. */
    static final class Pot {
        final int[] amounts = new int[PARTS];
        final int[] ladle = new int[PARTS];
        final int[] kinds = new int[COOKS_MOST];
        final int[] parts = new int[COOKS_MOST];
        final int[] weights = new int[COOKS_MOST];
        final int[] merits = new int[COOKS_MOST];
        int total = 1000;
        int date;
        int staff;

        Pot() {
            amounts[WATER] = total;
        }

        /** The ladle is left out: it is measured anew before each use. */
        void become(Pot other) {
            System.arraycopy(other.amounts, 0, amounts, 0, PARTS);
            System.arraycopy(other.kinds, 0, kinds, 0, COOKS_MOST);
            System.arraycopy(other.parts, 0, parts, 0, COOKS_MOST);
            System.arraycopy(other.weights, 0, weights, 0, COOKS_MOST);
            System.arraycopy(other.merits, 0, merits, 0, COOKS_MOST);
            total = other.total;
            date = other.date;
            staff = other.staff;
        }

        boolean hasRoom(int part, int v) {
            return total - amounts[part] + v <= ALL_MOST;
        }

        void fill(int part, int v) {
            total += v - amounts[part];
            amounts[part] = v;
        }

        int tasteOf(int part) {
            return total == 0 ? 0 : WHOLE_TASTE * amounts[part] / total;
        }

        boolean isVague() {
            return tasteOf(WATER) > WHOLE_TASTE / 2;
        }

        int partsThere() {
            int there = 0;
            for (int part = 0; part < PARTS; part++) {
                if (amounts[part] > 0) {
                    there |= 1 << part;
                }
            }
            return there;
        }

        int fullestPart() {
            int found = 0;
            for (int part = 1; part < PARTS; part++) {
                if (amounts[part] > amounts[found]) {
                    found = part;
                }
            }
            return found;
        }

        int leastTaste(int among) {
            int least = among == 0 ? 0 : WHOLE_TASTE;
            for (int part = 0; part < PARTS; part++) {
                if ((among >> part & 1) == 1) {
                    least = Math.min(least, tasteOf(part));
                }
            }
            return least;
        }

        /** Lays in the ladle what a taking of t would have of each part: how many in all. */
        int measure(int t) {
            int wanted = Math.min(t, total);
            int lacking = wanted;
            for (int part = 0; part < PARTS; part++) {
                ladle[part] = total == 0 ? 0 : amounts[part] * wanted / total;
                lacking -= ladle[part];
            }
            // Less than a grain a part was cut off, so that many rounds are always enough.
            for (int round = 0; round < PARTS && lacking > 0; round++) {
                for (int part = 0; part < PARTS && lacking > 0; part++) {
                    if (ladle[part] < amounts[part]) {
                        ladle[part]++;
                        lacking--;
                    }
                }
            }
            return wanted;
        }

        int takeOut(int t) {
            int taken = measure(t);
            for (int part = 0; part < PARTS; part++) {
                amounts[part] -= ladle[part];
            }
            total -= taken;
            return taken;
        }

        boolean isStaffed() {
            return staff >= COOKS_MOST;
        }

        int hire(int kind) {
            kinds[staff] = kind;
            parts[staff] = 1;
            weights[staff] = 100;
            merits[staff] = 5;
            staff++;
            return staff - 1;
        }

        void exchange(int cook, int other) {
            exchangeIn(kinds, cook, other);
            exchangeIn(parts, cook, other);
            exchangeIn(weights, cook, other);
            exchangeIn(merits, cook, other);
        }

        private static void exchangeIn(int[] row, int cook, int other) {
            int held = row[cook];
            row[cook] = row[other];
            row[other] = held;
        }

        void waterAllBut(int cook) {
            for (int other = 0; other < staff; other++) {
                if (other != cook) {
                    parts[other] = WATER;
                }
            }
        }

        int weightOfAll() {
            int sum = 0;
            for (int cook = 0; cook < staff; cook++) {
                sum += weights[cook];
            }
            return sum;
        }

        int whoseTurn() {
            return staff == 0 ? -1 : date % staff;
        }

        int takesBy(int cook) {
            return Math.min(wantsBy(cook), total);
        }

        private int wantsBy(int cook) {
            int weight = weights[cook];
            switch (kinds[cook]) {
                case FRUGAL: return weight / 2;
                case GRAND: return weight + 50;
                case STATUTE: return date % 7 == 0 ? 0 : weight / 2;
                case BLITZ: return 2 * (weight + 50);
                default: return weight;
            }
        }

        int putsBy(int cook, int taken) {
            int due = taken + merits[cook];
            switch (kinds[cook]) {
                case GRAND: return due + taken / 10;
                case WATERY: return taken;
                case STATUTE: return Math.max(due - 5, 0);
                case BLITZ: return Math.max(due + taken / 10 - taken / 2, 0);
                default: return due;
            }
        }

        int partPutBy(int cook) {
            switch (kinds[cook]) {
                case WATERY: return WATER;
                case STATUTE: return date % 5 == 0 ? STATUTE_PART : parts[cook];
                case BLITZ: return total < 500 ? BLITZ_PART : parts[cook];
                default: return parts[cook];
            }
        }

        void goOn(int n) {
            for (int gone = 0; gone < n; gone++) {
                if (staff > 0) {
                    serve(date % staff);
                }
                date++;
            }
        }

        private void serve(int cook) {
            // Asked before the taking: it hangs on the total as the year began.
            int part = partPutBy(cook);
            int taken = takeOut(takesBy(cook));
            int put = Math.min(putsBy(cook, taken), ALL_MOST - total);
            fill(part, amounts[part] + put);
        }
    }

    /** A row of numbers that stays one length inside and tells how much of it is in use. */
    static final class Sheet {
        final long[] numbers = new long[SHEET_MOST];
        int width;
        int size;

        void layOut(int bits, int n) {
            for (int i = 0; i < SHEET_MOST; i++) {
                numbers[i] = 0;
            }
            width = bits;
            size = n;
        }

        boolean isMissing() {
            return width == 0;
        }

        /** Asked by what is left behind the first one, since a sum could wrap around. */
        boolean hasRun(int from, int n) {
            return from >= 0 && n >= 0 && from <= size && n <= size - from;
        }

        void put(int i, long v) {
            switch (width) {
                case 8:
                    numbers[i] = (byte) v;
                    break;
                case 16:
                    numbers[i] = (short) v;
                    break;
                default:
                    numbers[i] = v;
            }
        }
    }

    /** The tape, and the reading of it as the text of a college. */
    static final class Tape {
        private static final int END = 0;
        private static final int WORD = 1;
        private static final int NUMBER = 2;
        private static final int SIGN = 3;
        private static final int STRANGE = 4;

        private final byte[] bytes = new byte[TAPE_MOST];
        int length;
        private int place;
        private int token;
        private int start;
        private int value;

        void append(byte b) {
            if (length < TAPE_MOST) {
                bytes[length] = b;
                length++;
            }
        }

        /** How many items came to the college, or -1 less the place of the fault. */
        int tellTo(Pot college) {
            place = 0;
            step();
            // Each item has a token of its own, so there are fewer items than bytes.
            for (int items = 1; items <= TAPE_MOST; items++) {
                if (!passItem(college)) {
                    break;
                }
                if (token == END) {
                    return items;
                }
                if (token != SIGN) {
                    break;
                }
                step();
            }
            return -1 - start;
        }

        /** Each passing stops on the token that can't stand there, if there is one. */
        private boolean passItem(Pot college) {
            if (isWord("part")) {
                return passPart(college);
            }
            int kind = kindNamed();
            if (kind < 0 || college.isStaffed()) {
                return false;
            }
            int cook = college.hire(kind);
            step();
            return passTrait("puts", college.parts, cook, PARTS - 1)
                && passTrait("weight", college.weights, cook, WEIGHT_MOST)
                && passTrait("merit", college.merits, cook, MERIT_MOST);
        }

        private boolean passPart(Pot college) {
            step();
            if (!isNumber(PARTS - 1)) {
                return false;
            }
            int part = value;
            step();
            if (!isNumber(NUMBER_MOST) || !college.hasRoom(part, value)) {
                return false;
            }
            college.fill(part, value);
            step();
            return true;
        }

        private boolean passTrait(String name, int[] row, int cook, int most) {
            if (!isWord(name)) {
                return true;
            }
            step();
            if (!isNumber(most)) {
                return false;
            }
            row[cook] = value;
            step();
            return true;
        }

        private int kindNamed() {
            return isWord("cook") ? COOK
                : isWord("frugal") ? FRUGAL
                : isWord("grand") ? GRAND
                : isWord("watery") ? WATERY
                : isWord("statute") ? STATUTE
                : isWord("blitz") ? BLITZ
                : -1;
        }

        private boolean isNumber(int most) {
            return token == NUMBER && value <= most;
        }

        private boolean isWord(String name) {
            if (token != WORD || place - start != name.length()) {
                return false;
            }
            for (int i = 0; i < name.length(); i++) {
                if (bytes[start + i] != name.charAt(i)) {
                    return false;
                }
            }
            return true;
        }

        private void step() {
            while (place < length && bytes[place] == ' ') {
                place++;
            }
            start = place;
            if (place >= length) {
                token = END;
            } else if (isAmong('a', 'z')) {
                stepWord();
            } else if (isAmong('0', '9')) {
                stepNumber();
            } else {
                token = bytes[place] == ';' ? SIGN : STRANGE;
                place++;
            }
        }

        private void stepWord() {
            token = WORD;
            while (place < length && isAmong('a', 'z')) {
                place++;
            }
        }

        private void stepNumber() {
            token = NUMBER;
            value = 0;
            while (place < length && isAmong('0', '9')) {
                // Held just above the most, so that no row of digits wraps around.
                value = Math.min(10 * value + bytes[place] - '0', NUMBER_MOST + 1);
                place++;
            }
        }

        private boolean isAmong(char first, char last) {
            return first <= bytes[place] && bytes[place] <= last;
        }
    }
}
