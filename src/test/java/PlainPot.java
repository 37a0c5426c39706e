import java.math.BigInteger;
import java.util.ArrayList;
import java.util.List;
import java.util.function.Predicate;
import java.util.function.ToIntFunction;
import java.util.regex.Matcher;
import java.util.regex.Pattern;

/**
 * The document told a second time, in another way than StockPot tells it: kinds as classes under
 * one another, grains taken with wide numbers, a state that is copied whole for every question.
 */
final class PlainPot {
    static class Cook {
        int part = 1;
        int weight = 100;
        int merit = 5;

        int wants(int year) { return weight; }
        int puts(int t) { return t + merit; }
        int what(int all, int year) { return part; }
    }

    static class Frugal extends Cook {
        @Override int wants(int year) { return super.wants(year) / 2; }
    }

    static class Grand extends Cook {
        @Override int wants(int year) { return super.wants(year) + 50; }
        @Override int puts(int t) { return super.puts(t) + t / 10; }
    }

    static final class Watery extends Cook {
        @Override int puts(int t) { return t; }
        @Override int what(int all, int year) { return 0; }
    }

    static final class Statute extends Frugal {
        @Override int wants(int year) { return year % 7 == 0 ? 0 : super.wants(year); }
        @Override int puts(int t) { return Math.max(0, super.puts(t) - 5); }
        @Override int what(int all, int year) { return year % 5 == 0 ? 3 : super.what(all, year); }
    }

    static final class Blitz extends Grand {
        @Override int wants(int year) { return 2 * super.wants(year); }
        @Override int puts(int t) { return Math.max(0, super.puts(t) - t / 2); }
        @Override int what(int all, int year) { return all < 500 ? 11 : super.what(all, year); }
    }

    private static final List<Class<? extends Cook>> KINDS =
        List.of(Cook.class, Frugal.class, Grand.class, Watery.class, Statute.class, Blitz.class);
    private static final List<String> NAMES = List.of("cook", "frugal", "grand", "watery", "statute", "blitz");

    static Cook made(int kind, int part, int weight, int merit) {
        Cook c = switch (kind) {
            case 0 -> new Cook();
            case 1 -> new Frugal();
            case 2 -> new Grand();
            case 3 -> new Watery();
            case 4 -> new Statute();
            default -> new Blitz();
        };
        c.part = part;
        c.weight = weight;
        c.merit = merit;
        return c;
    }

    static int kindOf(Cook c) {
        return KINDS.indexOf(c.getClass());
    }

    static final class State {
        final int[] grains = new int[12];
        final List<Cook> cooks = new ArrayList<>();
        int year = 0;

        State copied() {
            State s = new State();
            System.arraycopy(grains, 0, s.grains, 0, 12);
            for (Cook c : cooks) {
                s.cooks.add(made(kindOf(c), c.part, c.weight, c.merit));
            }
            s.year = year;
            return s;
        }

        int all() {
            int sum = 0;
            for (int g : grains) {
                sum += g;
            }
            return sum;
        }

        int taste(int part) {
            return all() == 0 ? 0 : (int) (1000L * grains[part] / all());
        }

        boolean vague() {
            return taste(0) > 500;
        }

        int[] spooned(int t) {
            int all = all();
            int wanted = Math.min(t, all);
            int[] spoon = new int[12];
            int got = 0;
            for (int p = 0; p < 12 && all > 0; p++) {
                BigInteger share = BigInteger.valueOf(grains[p]).multiply(BigInteger.valueOf(wanted));
                spoon[p] = share.divide(BigInteger.valueOf(all)).intValueExact();
                got += spoon[p];
            }
            for (int p = 0; got < wanted; p = (p + 1) % 12) {
                if (grains[p] - spoon[p] > 0) {
                    spoon[p] += 1;
                    got += 1;
                }
            }
            return spoon;
        }

        int take(int t) {
            int before = all();
            int[] spoon = spooned(t);
            for (int p = 0; p < 12; p++) {
                grains[p] -= spoon[p];
            }
            return before - all();
        }

        State gone(int n) {
            for (int i = 0; i < n; i++) {
                if (!cooks.isEmpty()) {
                    Cook c = cooks.get(year % cooks.size());
                    int what = c.what(all(), year);
                    int t = take(c.wants(year));
                    grains[what] += Math.min(c.puts(t), 99999 - all());
                }
                year++;
            }
            return this;
        }

        int there() {
            int set = 0;
            for (int p = 0; p < 12; p++) {
                set += grains[p] > 0 ? 1 << p : 0;
            }
            return set;
        }
    }

    private State now = new State();
    private State kept = null;
    private final StringBuilder tape = new StringBuilder();
    private final long[][] sheets = new long[4][];
    private final int[] bits = new int[4];
    private final int[] found = new int[7];

    PlainPot() {
        now.grains[0] = 1000;
    }

    private long tell(long finding) {
        found[(int) (Due.BEYOND - finding)]++;
        return finding;
    }

    private static boolean in(long v, long least, long most) {
        return v >= least && v <= most;
    }

    private boolean cookIn(long c) {
        return in(c, 0, now.cooks.size() - 1);
    }

    private State on(int n) {
        return now.copied().gone(n);
    }

    private long first(Predicate<State> is) {
        for (int n = 0; n <= 200; n++) {
            if (is.test(on(n))) {
                return n;
            }
        }
        return tell(Due.NONE);
    }

    /** The place of the greatest of some values, of several the first. */
    private static int greatest(int many, ToIntFunction<Integer> value) {
        int at = 0;
        for (int i = 1; i < many; i++) {
            if (value.applyAsInt(i) > value.applyAsInt(at)) {
                at = i;
            }
        }
        return at;
    }

    private State changed(int cook, int kind, int part, int weight) {
        State s = now.copied();
        Cook c = s.cooks.get(cook);
        s.cooks.set(cook, made(kind < 0 ? kindOf(c) : kind, part < 0 ? c.part : part, weight < 0 ? c.weight : weight, c.merit));
        return s;
    }

    private static int leastTaste(State s, int set) {
        int least = Integer.MAX_VALUE;
        for (int p = 0; p < 12; p++) {
            if ((set & 1 << p) != 0) {
                least = Math.min(least, s.taste(p));
            }
        }
        return set == 0 ? 0 : least;
    }

    long call(String name, long... a) {
        return switch (name) {
            case "grains", "pour", "taste", "spoon", "spoonOf" -> pot(name, a);
            case "cook", "of", "set", "turn", "as", "swap" -> cooks(name, a);
            case "years", "now", "on", "vague", "gone", "strong" -> years(name, a);
            case "better", "weight", "kind", "puts", "best", "dull" -> best(name, a);
            case "feed", "wipe", "college" -> text(name, a);
            case "sheet", "write", "copy", "lays", "book", "read" -> sheets(name, a);
            default -> images(name, a);
        };
    }

    private long pot(String name, long[] a) {
        boolean isSpoon = name.equals("spoon");
        if (!isSpoon && !in(a[0], 0, 11)) {
            return tell(Due.BEYOND);
        }
        switch (name) {
            case "grains":
                return now.grains[(int) a[0]];
            case "taste":
                return now.taste((int) a[0]);
            case "pour":
                if (!in(a[1], 0, 99999)) {
                    return tell(Due.BEYOND);
                }
                int was = now.grains[(int) a[0]];
                if (now.all() - was + a[1] > 99999) {
                    return tell(Due.FULL);
                }
                now.grains[(int) a[0]] = (int) a[1];
                return was;
            default:
                long t = isSpoon ? a[0] : a[1];
                if (!in(t, 1, 999)) {
                    return tell(Due.BEYOND);
                }
                return isSpoon ? now.take((int) t) : now.spooned((int) t)[(int) a[0]];
        }
    }

    private long cooks(String name, long[] a) {
        if (name.equals("cook")) {
            if (!in(a[0], 0, 5)) {
                return tell(Due.BEYOND);
            }
            if (now.cooks.size() == 8) {
                return tell(Due.FULL);
            }
            now.cooks.add(made((int) a[0], 1, 100, 5));
            return now.cooks.size() - 1;
        }
        if (!cookIn(a[0])) {
            return tell(Due.BEYOND);
        }
        Cook c = now.cooks.get((int) a[0]);
        switch (name) {
            case "of":
                if (!in(a[1], 0, 6)) {
                    return tell(Due.BEYOND);
                }
                int takes = Math.min(c.wants(now.year), now.all());
                return new int[] {
                    kindOf(c), c.part, c.weight, c.merit, takes, c.puts(takes), c.what(now.all(), now.year),
                }[(int) a[1]];
            case "set":
                if (!in(a[1], 1, 3) || !in(a[2], 0, new int[] {0, 11, 999, 9}[(int) a[1]])) {
                    return tell(Due.BEYOND);
                }
                int[] was = {0, c.part, c.weight, c.merit};
                c.part = a[1] == 1 ? (int) a[2] : c.part;
                c.weight = a[1] == 2 ? (int) a[2] : c.weight;
                c.merit = a[1] == 3 ? (int) a[2] : c.merit;
                return was[(int) a[1]];
            case "turn":
                if (!in(a[1], 0, 5)) {
                    return tell(Due.BEYOND);
                }
                now.cooks.set((int) a[0], made((int) a[1], c.part, c.weight, c.merit));
                return kindOf(c);
            case "as":
                if (!in(a[1], 0, 5)) {
                    return tell(Due.BEYOND);
                }
                return KINDS.get((int) a[1]).isInstance(c) ? c.weight : tell(Due.KIND);
            default:
                if (!cookIn(a[1]) || a[0] == a[1]) {
                    return tell(Due.BEYOND);
                }
                now.cooks.set((int) a[0], now.cooks.set((int) a[1], c));
                return 1;
        }
    }

    private long years(String name, long[] a) {
        switch (name) {
            case "years":
                if (!in(a[0], 1, 100)) {
                    return tell(Due.BEYOND);
                }
                if (now.year + a[0] > 9999) {
                    return tell(Due.STATE);
                }
                return now.gone((int) a[0]).all();
            case "now":
                if (!in(a[0], 0, 5)) {
                    return tell(Due.BEYOND);
                }
                return new int[] {
                    now.year, now.all(), now.cooks.isEmpty() ? -1 : now.year % now.cooks.size(), now.there(),
                    now.vague() ? 1 : 0, greatest(12, p -> now.grains[p]),
                }[(int) a[0]];
            case "on":
                if (!in(a[0], 0, 11) || !in(a[1], 0, 100) || !in(a[2], 0, 1)) {
                    return tell(Due.BEYOND);
                }
                State then = on((int) a[1]);
                return a[2] == 0 ? then.grains[(int) a[0]] : then.taste((int) a[0]);
            case "vague":
                return first(State::vague);
            case "gone":
                if (!in(a[0], 0, 11) || !in(a[1], 0, 99999)) {
                    return tell(Due.BEYOND);
                }
                return first(s -> s.grains[(int) a[0]] <= a[1]);
            default:
                if (!in(a[0], 0, 11) || !in(a[1], 0, 1000)) {
                    return tell(Due.BEYOND);
                }
                return first(s -> s.taste((int) a[0]) >= a[1]);
        }
    }

    private long best(String name, long[] a) {
        long n = name.equals("kind") || name.equals("weight") ? a[2] : a[a.length - 1];
        int least = name.equals("best") ? 0 : 1;
        int most = name.equals("best") ? 100 : name.equals("weight") ? 20 : 60;
        boolean hasCook = name.equals("kind") || name.equals("weight") || name.equals("puts");
        boolean hasPart = name.equals("kind") || name.equals("weight") || name.equals("better");
        int partAt = name.equals("better") ? 0 : 1;
        if (!in(n, least, most) || hasCook && !cookIn(a[0]) || hasPart && !in(a[partAt], 0, 11)
            || name.equals("weight") && !in(a[3], 0, 99999)) {
            return tell(Due.BEYOND);
        }
        int part = hasPart ? (int) a[partAt] : 0;
        int cook = hasCook ? (int) a[0] : 0;
        switch (name) {
            case "better":
                return better(part, (int) n);
            case "weight":
                for (int w = 0; w <= 999; w++) {
                    if (changed(cook, -1, -1, w).gone((int) n).grains[part] >= a[3]) {
                        return w;
                    }
                }
                return tell(Due.NONE);
            case "kind":
                return greatest(6, k -> changed(cook, k, -1, -1).gone((int) n).grains[part]);
            case "puts":
                return greatest(12, p -> leastTaste(changed(cook, -1, p, -1).gone((int) n), now.there()));
            case "best":
                State then = on((int) n);
                return 1 + greatest(11, p -> then.taste(p + 1));
            default:
                int set = 0;
                for (int c = 0; c < now.cooks.size(); c++) {
                    State s = now.copied();
                    for (Cook other : s.cooks) {
                        other.part = other == s.cooks.get(c) ? other.part : 0;
                    }
                    set += s.gone((int) n).vague() ? 1 << c : 0;
                }
                return set;
        }
    }

    private long better(int part, int n) {
        int most = on(n).grains[part];
        long answer = -1;
        for (int pair = 0; pair < 78; pair++) {
            int i = pair / 10;
            int j = pair % 10;
            if (i < j && j < now.cooks.size()) {
                State s = now.copied();
                s.cooks.set(i, s.cooks.set(j, s.cooks.get(i)));
                if (s.gone(n).grains[part] > most) {
                    most = s.grains[part];
                    answer = pair;
                }
            }
        }
        return answer < 0 ? tell(Due.NONE) : answer;
    }

    private long text(String name, long[] a) {
        switch (name) {
            case "feed":
                if (!in(a[1], 1, 4)) {
                    return tell(Due.BEYOND);
                }
                if (tape.length() + a[1] > 120) {
                    return tell(Due.FULL);
                }
                for (int i = (int) a[1]; i > 0; i--) {
                    tape.append((char) (a[0] >> 8 * (i - 1) & 255));
                }
                return tape.length();
            case "wipe":
                int had = tape.length();
                tape.setLength(0);
                return had;
            default:
                String text = tape.toString();
                tape.setLength(0);
                return college(text);
        }
    }

    private long college(String text) {
        List<String> tokens = new ArrayList<>();
        List<Integer> places = new ArrayList<>();
        Matcher m = Pattern.compile("[a-z]+|[0-9]+|[^ ]", Pattern.DOTALL).matcher(text);
        while (m.find()) {
            tokens.add(m.group());
            places.add(m.start());
        }
        tokens.add("");
        places.add(text.length());
        State s = now.copied();
        int at = 0;
        int items = 0;
        while (true) {
            String head = tokens.get(at);
            int kind = NAMES.indexOf(head);
            if (head.equals("part")) {
                if (!number(tokens.get(at + 1), 11)) {
                    return -1 - places.get(at + 1);
                }
                int part = Integer.parseInt(tokens.get(at + 1));
                if (!number(tokens.get(at + 2), 9999)) {
                    return -1 - places.get(at + 2);
                }
                s.grains[part] = Integer.parseInt(tokens.get(at + 2));
                if (s.all() > 99999) {
                    return -1 - places.get(at + 2);
                }
                at += 3;
            } else if (kind >= 0 && s.cooks.size() < 8) {
                int[] traits = {1, 100, 5};
                at++;
                for (int i = 0; i < 3; i++) {
                    if (tokens.get(at).equals(List.of("puts", "weight", "merit").get(i))) {
                        if (!number(tokens.get(at + 1), new int[] {11, 999, 9}[i])) {
                            return -1 - places.get(at + 1);
                        }
                        traits[i] = Integer.parseInt(tokens.get(at + 1));
                        at += 2;
                    }
                }
                s.cooks.add(made(kind, traits[0], traits[1], traits[2]));
            } else {
                return -1 - places.get(at);
            }
            items++;
            if (at == tokens.size() - 1) {
                now = s;
                return items;
            }
            if (!tokens.get(at).equals(";")) {
                return -1 - places.get(at);
            }
            at++;
        }
    }

    private static boolean number(String token, int most) {
        return token.matches("[0-9]+") && new BigInteger(token).compareTo(BigInteger.valueOf(most)) <= 0;
    }

    private static long cut(int bits, long v) {
        return v << 64 - bits >> 64 - bits;
    }

    private long sheets(String name, long[] a) {
        if (!in(a[0], 0, 3) || name.equals("copy") && !in(a[2], 0, 3)) {
            return tell(Due.BEYOND);
        }
        int s = (int) a[0];
        if (name.equals("sheet")) {
            if (a[1] != 0 && a[1] != 8 && a[1] != 16 && a[1] != 64) {
                return tell(Due.BEYOND);
            }
            if (a[2] < 0) {
                return tell(Due.SIZE);
            }
            if (a[2] > 40) {
                return tell(Due.BEYOND);
            }
            bits[s] = (int) a[1];
            sheets[s] = a[1] == 0 ? null : new long[(int) a[2]];
            return a[1] == 0 ? 0 : a[2];
        }
        if (sheets[s] == null || name.equals("copy") && sheets[(int) a[2]] == null) {
            return tell(Due.MISSING);
        }
        long[] row = sheets[s];
        switch (name) {
            case "write":
                if (!in(a[1], 0, row.length - 1)) {
                    return tell(Due.BEYOND);
                }
                long was = row[(int) a[1]];
                row[(int) a[1]] = cut(bits[s], a[2]);
                return was;
            case "copy":
                return copy(s, (int) a[2], a);
            case "lays":
                int came = 0;
                for (int p = 0; p < Math.min(12, row.length); p++) {
                    if (row[p] >= 0 && row[p] <= 99999L - now.all() + now.grains[p]) {
                        now.grains[p] = (int) row[p];
                        came++;
                    }
                }
                return came;
            default:
                if (!in(a[1], 0, 11) || name.equals("read") && !cookIn(a[2])) {
                    return tell(Due.BEYOND);
                }
                return name.equals("book") ? book(s, (int) a[1]) : read(row, (int) a[1], (int) a[2]);
        }
    }

    private long copy(int s, int t, long[] a) {
        if (bits[s] != bits[t]) {
            return tell(Due.KIND);
        }
        if (a[1] < 0 || a[3] < 0 || a[4] < 0 || a[1] + a[4] > sheets[s].length || a[3] + a[4] > sheets[t].length) {
            return tell(Due.BEYOND);
        }
        long[] before = sheets[s].clone();
        for (int i = 0; i < a[4]; i++) {
            sheets[t][(int) a[3] + i] = before[(int) a[1] + i];
        }
        return a[4];
    }

    private long book(int s, int part) {
        for (int n = 0; n < sheets[s].length; n++) {
            sheets[s][n] = cut(bits[s], on(n).taste(part));
        }
        return sheets[s].length;
    }

    private long read(long[] row, int part, int cook) {
        int pairs = 0;
        for (int pair = 0; pair < 72; pair++) {
            boolean is = true;
            State s = changed(cook, pair / 12, pair % 12, -1);
            for (int n = 0; n < row.length; n++) {
                is &= s.copied().gone(n).taste(part) == row[n];
            }
            pairs += is ? 1 : 0;
        }
        return pairs;
    }

    private long images(String name, long[] a) {
        switch (name) {
            case "image":
                kept = now.copied();
                return 1;
            case "undo":
                if (kept == null) {
                    return tell(Due.NONE);
                }
                now = kept.copied();
                return now.cooks.size();
            case "tear":
                boolean was = kept != null;
                kept = null;
                return was ? 1 : 0;
            case "count":
                if (!in(a[0], 0, 3)) {
                    return tell(Due.BEYOND);
                }
                int weights = now.cooks.stream().mapToInt(c -> c.weight).sum();
                return new int[] {
                    now.cooks.size(), tape.length(), weights, 12 - Integer.bitCount(now.there()),
                }[(int) a[0]];
            default:
                if (!in(a[0], -1, 6)) {
                    return tell(Due.BEYOND);
                }
                int sum = 0;
                for (int f : found) {
                    sum += f;
                }
                return a[0] < 0 ? sum : found[(int) a[0]];
        }
    }
}
