import java.util.ArrayDeque;
import java.util.ArrayList;
import java.util.Arrays;
import java.util.Deque;
import java.util.HashMap;
import java.util.HashSet;
import java.util.LinkedHashMap;
import java.util.List;
import java.util.Map;
import java.util.Set;
import java.util.TreeSet;
import java.util.function.IntPredicate;

/**
 * The document once more, as plainly as it can be said and by other ways than HideReader goes:
 * sets, searches over everything, whole states kept. Random runs ask both and compare.
 */
final class NaiveReader {
    static final int NONE = -1;
    private static final Set<String> RESERVED = Set.of("turns", "mirror", "herd", "strokes", "iron", "beast", "of", "born",
        "shows", "night", "draw", "or", "and", "not", "age", "scars", "stroke", "season");

    // ---- the lattice, by its points

    private static int strokeBetween(int x1, int y1, int x2, int y2) {
        if (y1 == y2) {
            return 2 * y1 + Math.min(x1, x2);
        }
        return 6 + 3 * Math.min(y1, y2) + x1;
    }

    private static int[] endsOf(int stroke) {
        for (int y = 0; y < 3; y++) {
            for (int x = 0; x < 3; x++) {
                if (x < 2 && strokeBetween(x, y, x + 1, y) == stroke) {
                    return new int[] {x, y, x + 1, y};
                }
                if (y < 2 && strokeBetween(x, y, x, y + 1) == stroke) {
                    return new int[] {x, y, x, y + 1};
                }
            }
        }
        throw new IllegalStateException("no stroke " + stroke);
    }

    private static int quarter(int mark) {
        int out = 0;
        for (int s = 0; s < 12; s++) {
            if ((mark >> s & 1) == 1) {
                int[] e = endsOf(s);
                out |= 1 << strokeBetween(2 - e[1], e[0], 2 - e[3], e[2]);
            }
        }
        return out;
    }

    private static int mirrored(int mark) {
        int out = 0;
        for (int s = 0; s < 12; s++) {
            if ((mark >> s & 1) == 1) {
                int[] e = endsOf(s);
                out |= 1 << strokeBetween(2 - e[0], e[1], 2 - e[2], e[3]);
            }
        }
        return out;
    }

    private final Map<Integer, int[]> placementsKnown = new HashMap<>();

    private int[] placements(int mark) {
        return placementsKnown.computeIfAbsent(mark, m -> {
            List<Integer> all = new ArrayList<>();
            for (int side = 0; side < (v.mirror ? 2 : 1); side++) {
                int now = side == 1 ? mirrored(m) : m;
                for (int t = 0; t < v.turns; t++) {
                    all.add(now);
                    now = v.turns == 4 ? quarter(now) : quarter(quarter(now));
                }
            }
            return all.stream().mapToInt(i -> i).toArray();
        });
    }

    private boolean one(int a, int b) {
        return Arrays.stream(placements(a)).anyMatch(p -> p == b);
    }

    private boolean isUnder(int a, int b) {
        return Arrays.stream(placements(a)).anyMatch(p -> (p | b) == b);
    }

    // ---- the text

    private record Token(String text, int place) {
        boolean number() { return !text.isEmpty() && Character.isDigit(text.charAt(0)); }
        boolean word() { return !text.isEmpty() && Character.isLowerCase(text.charAt(0)); }
    }

    @SuppressWarnings("serial")
    private static final class Fault extends RuntimeException {
        final int kind;
        final int place;
        Fault(int kind, int place) { this.kind = kind; this.place = place; }
    }

    private interface Expr { int value(Map<String, Integer> facts); }

    private static final class Text {
        int turns = 1;
        boolean mirror;
        int night;
        int draw;
        Expr shows;
        int units;
        final Map<String, Integer> herds = new LinkedHashMap<>();
        final Map<String, Integer> irons = new LinkedHashMap<>();
        final Map<String, int[]> beasts = new LinkedHashMap<>();
    }

    private static final class Parser {
        final String src;
        int pos = 0;
        final Text t = new Text();
        final Set<String> once = new HashSet<>();
        Parser(String src) { this.src = src; }

        Token peek() {
            int i = pos;
            while (i < src.length() && (src.charAt(i) == ' ' || src.charAt(i) == '\n')) i++;
            if (i == src.length()) return new Token("", i);
            String rest = src.substring(i);
            String w = rest.replaceFirst("(?s)^([a-z]*).*$", "$1");
            String n = rest.replaceFirst("(?s)^([0-9]*).*$", "$1");
            if (!w.isEmpty()) {
                if (w.length() > 8) throw new Fault(1, i);
                return new Token(w, i);
            }
            if (!n.isEmpty()) {
                if (n.length() > 4 || rest.length() > n.length() && rest.substring(n.length(), n.length() + 1).matches("[a-z]")) {
                    throw new Fault(1, i);
                }
                return new Token(n, i);
            }
            if (";()<>=+-*/%".indexOf(rest.charAt(0)) < 0) throw new Fault(1, i);
            return new Token(rest.substring(0, 1), i);
        }

        Token take() {
            Token k = peek();
            if (k.text.isEmpty()) throw new Fault(2, src.length());
            pos = k.place + k.text.length();
            return k;
        }

        void due(String text) {
            Token k = take();
            if (!k.text.equals(text)) throw new Fault(2, k.place);
        }

        int num(IntPredicate ok) {
            Token k = take();
            if (!k.number()) throw new Fault(2, k.place);
            int n = Integer.parseInt(k.text);
            if (!ok.test(n)) throw new Fault(4, k.place);
            return n;
        }

        Token name() {
            Token k = take();
            if (!k.word() || RESERVED.contains(k.text)) throw new Fault(2, k.place);
            return k;
        }

        Text all() {
            while (!peek().text.isEmpty()) {
                Token first = take();
                switch (first.text) {
                    case "turns", "mirror", "shows", "night", "draw" -> {
                        if (!once.add(first.text)) throw new Fault(2, first.place);
                    }
                    case "herd" -> { if (t.herds.size() == 8) throw new Fault(2, first.place); }
                    case "iron" -> { if (t.irons.size() == 6) throw new Fault(2, first.place); }
                    case "beast" -> { if (t.beasts.size() == 8) throw new Fault(2, first.place); }
                    default -> throw new Fault(2, first.place);
                }
                switch (first.text) {
                    case "turns" -> t.turns = num(n -> n == 1 || n == 2 || n == 4);
                    case "mirror" -> t.mirror = true;
                    case "night" -> t.night = num(n -> n <= 100);
                    case "draw" -> t.draw = num(n -> n <= 999);
                    case "shows" -> t.shows = e(0);
                    case "herd" -> marks(t.herds);
                    case "iron" -> marks(t.irons);
                    default -> beast();
                }
                due(";");
            }
            return t;
        }

        void marks(Map<String, Integer> into) {
            Token k = name();
            if (into.containsKey(k.text)) throw new Fault(3, k.place);
            due("strokes");
            int mark = 0;
            do {
                int place = peek().place;
                int n = num(m -> m < 12);
                if ((mark >> n & 1) == 1) throw new Fault(3, place);
                mark |= 1 << n;
            } while (peek().number());
            into.put(k.text, mark);
        }

        void beast() {
            Token k = name();
            if (t.beasts.containsKey(k.text)) throw new Fault(3, k.place);
            due("of");
            Token h = name();
            if (!t.herds.containsKey(h.text)) throw new Fault(5, h.place);
            int born = 0;
            if (peek().text.equals("born")) {
                take();
                born = num(n -> n <= 99);
            }
            t.beasts.put(k.text, new int[] {new ArrayList<>(t.herds.keySet()).indexOf(h.text), born});
        }

        Expr e(int within) {
            Expr a = both(within);
            while (peek().text.equals("or")) {
                take();
                Expr l = a;
                Expr r = both(within);
                a = f -> l.value(f) != 0 | r.value(f) != 0 ? 1 : 0;
            }
            return a;
        }

        Expr both(int within) {
            Expr a = oneOf(within);
            while (peek().text.equals("and")) {
                take();
                Expr l = a;
                Expr r = oneOf(within);
                a = f -> l.value(f) != 0 & r.value(f) != 0 ? 1 : 0;
            }
            return a;
        }

        Expr oneOf(int within) {
            Token k = peek();
            if (k.text.equals("not")) {
                take();
                if (within >= 7) throw new Fault(2, k.place);
                Expr a = oneOf(within + 1);
                return f -> a.value(f) == 0 ? 1 : 0;
            }
            Expr l = sum(within);
            String rel = peek().text;
            if (rel.equals("<") || rel.equals(">") || rel.equals("=")) {
                take();
                Expr r = sum(within);
                return f -> {
                    int c = Integer.compare(l.value(f), r.value(f));
                    return (rel.equals("<") ? c < 0 : rel.equals(">") ? c > 0 : c == 0) ? 1 : 0;
                };
            }
            return l;
        }

        Expr sum(int within) {
            Expr a = term(within);
            while (peek().text.equals("+") || peek().text.equals("-")) {
                boolean plus = take().text.equals("+");
                Expr l = a;
                Expr r = term(within);
                a = f -> (int) (plus ? (long) l.value(f) + r.value(f) : (long) l.value(f) - r.value(f));
            }
            return a;
        }

        Expr term(int within) {
            Expr a = unit(within);
            while (peek().text.equals("*") || peek().text.equals("/") || peek().text.equals("%")) {
                String op = take().text;
                Expr l = a;
                Expr r = unit(within);
                a = f -> {
                    long x = l.value(f);
                    long y = r.value(f);
                    if (op.equals("*")) return (int) (x * y);
                    if (y == 0) return 0;
                    return (int) (op.equals("/") ? x / y : x % y);
                };
            }
            return a;
        }

        Expr unit(int within) {
            Token k = take();
            t.units++;
            if (t.units > 30) throw new Fault(2, k.place);
            if (k.number()) {
                int n = Integer.parseInt(k.text);
                return f -> n;
            }
            if (Set.of("age", "scars", "stroke", "born", "season").contains(k.text)) return f -> f.get(k.text);
            if (!k.text.equals("(")) throw new Fault(2, k.place);
            if (within >= 7) throw new Fault(2, k.place);
            Expr a = e(within + 1);
            due(")");
            return a;
        }
    }

    // ---- the state

    private record Now(List<Map<Integer, Integer>> hides, List<Integer> owners, int season, int seed) {
        Now copy() {
            List<Map<Integer, Integer>> h = new ArrayList<>();
            hides.forEach(m -> h.add(new HashMap<>(m)));
            return new Now(h, new ArrayList<>(owners), season, seed);
        }
        int hide(int b) { return hides.get(b).keySet().stream().mapToInt(s -> 1 << s).sum(); }
    }

    private record Sight(int burning, int stroke, boolean is, int told, int[] untold) { }

    private StringBuilder tape = new StringBuilder();
    private Text v = new Text();
    private List<Integer> brands = new ArrayList<>();
    private List<Integer> irons = new ArrayList<>();
    private List<int[]> beasts = new ArrayList<>();
    private Now now = new Now(new ArrayList<>(), new ArrayList<>(), 0, 0);
    private Deque<Now> past = new ArrayDeque<>();
    private Deque<Now> future = new ArrayDeque<>();
    private final Map<Integer, Now> boxes = new HashMap<>();
    private List<Sight> sights = new ArrayList<>();
    private int time = 0;
    private List<Integer> lying = new ArrayList<>();
    private int fault = 0;
    private int faultPlace = NONE;

    int feed(int a, int b, int c, int d, int e) {
        if (tape.length() > 1580) return NONE;
        for (int n : new int[] {a, b, c, d, e}) {
            for (int i = 3; i >= 0; i--) tape.append((char) (n >>> 8 * i & 255));
        }
        return tape.length();
    }

    int end(int n) {
        if (n < 0 || n > tape.length()) return NONE;
        tape.setLength(n);
        return n;
    }

    int valley() {
        Text t;
        try {
            t = new Parser(tape.toString()).all();
        } catch (Fault f) {
            fault = f.kind;
            faultPlace = f.place;
            return NONE;
        }
        fault = 0;
        faultPlace = NONE;
        tape.setLength(0);
        v = t;
        placementsKnown.clear();
        reachKnown.clear();
        brands = new ArrayList<>(t.herds.values());
        irons = new ArrayList<>(t.irons.values());
        beasts = new ArrayList<>(t.beasts.values());
        now = new Now(new ArrayList<>(), new ArrayList<>(), 0, t.draw);
        for (int[] b : beasts) {
            Map<Integer, Integer> hide = new HashMap<>();
            bits(brands.get(b[0])).forEach(s -> hide.put(s, b[1]));
            now.hides.add(hide);
            now.owners.add(b[0]);
        }
        past.clear();
        future.clear();
        boxes.clear();
        sights.clear();
        lying = new ArrayList<>();
        return brands.size();
    }

    private static List<Integer> bits(int mark) {
        List<Integer> out = new ArrayList<>();
        for (int i = 0; i < 12; i++) if ((mark >> i & 1) == 1) out.add(i);
        return out;
    }

    int fault(int what) { return what == 0 ? fault : what == 1 ? faultPlace : NONE; }
    int brand(int h) { return herd(h) ? brands.get(h) : NONE; }
    int iron(int i) { return i >= 0 && i < irons.size() ? irons.get(i) : NONE; }
    private boolean herd(int h) { return h >= 0 && h < brands.size(); }
    private boolean isBeast(int b) { return b >= 0 && b < beasts.size(); }
    private static boolean mark(int m) { return m >= 0 && m <= 4095; }

    private boolean showsOne(int b, int stroke, int age, int season) {
        if (v.shows == null) return true;
        Map<String, Integer> f = Map.of("age", age, "scars", now.hides.get(b).size(), "stroke", stroke, "born", beasts.get(b)[1], "season", season);
        return v.shows.value(f) != 0;
    }

    private int showing(int b, int ahead) {
        int out = 0;
        for (Map.Entry<Integer, Integer> s : now.hides.get(b).entrySet()) {
            if (showsOne(b, s.getKey(), Math.min(999, s.getValue() + ahead), now.season + ahead)) out |= 1 << s.getKey();
        }
        return out;
    }

    int beast(int b, int what) {
        if (!isBeast(b) || what < 0 || what > 5) return NONE;
        return new int[] {now.hide(b), showing(b, 0), now.owners.get(b), beasts.get(b)[0], beasts.get(b)[1], now.hides.get(b).size()}[what];
    }

    int age(int b, int s) { return isBeast(b) ? now.hides.get(b).getOrDefault(s, NONE) : NONE; }

    int placed(int m, int p) {
        if (!mark(m) || p < 0 || p >= placements(m).length) return NONE;
        return placements(m)[p];
    }

    int under(int m, int o) { return mark(m) && mark(o) ? isUnder(m, o) ? 1 : 0 : NONE; }

    private void act(Now next) {
        past.push(now);
        if (past.size() > 40) past.removeLast();
        future.clear();
        now = next;
    }

    int season() {
        if (now.season == 999) return NONE;
        Now n = now.copy();
        n.hides.forEach(h -> h.replaceAll((s, a) -> Math.min(999, a + 1)));
        int seed = n.seed;
        int burned = 0;
        for (int b = 0; b < beasts.size(); b++) {
            seed = (seed * 137 + 71) % 1000;
            if (seed % 100 < v.night) {
                burned += 1 << b;
                n.hides.get(b).putIfAbsent(seed % 12, 0);
            }
        }
        act(new Now(n.hides, n.owners, n.season + 1, seed));
        return burned;
    }

    int burn(int b, int i, int p) {
        if (!isBeast(b) || iron(i) == NONE || placed(iron(i), p) == NONE) return NONE;
        Now n = now.copy();
        int before = n.hides.get(b).size();
        bits(placed(iron(i), p)).forEach(s -> n.hides.get(b).putIfAbsent(s, 0));
        act(n);
        return n.hides.get(b).size() - before;
    }

    int sell(int b, int h) {
        if (!isBeast(b) || !herd(h) || now.owners.get(b) == h) return NONE;
        Now n = now.copy();
        int was = n.owners.set(b, h);
        act(n);
        return was;
    }

    int clean(int b) {
        if (!isBeast(b)) return NONE;
        Now n = now.copy();
        Map<Integer, Integer> h = n.hides.get(b);
        Set<Integer> gone = new TreeSet<>(h.keySet());
        h.clear();
        bits(brands.get(beasts.get(b)[0])).forEach(s -> h.put(s, 0));
        gone.removeAll(h.keySet());
        act(n);
        return gone.size();
    }

    boolean undo() {
        if (past.isEmpty()) return false;
        future.push(now);
        now = past.pop();
        return true;
    }

    boolean redo() {
        if (future.isEmpty()) return false;
        past.push(now);
        now = future.pop();
        return true;
    }

    // ---- making: everything that four burnings reach

    private final Map<Integer, Map<Integer, Integer>> reachKnown = new HashMap<>();

    private Map<Integer, Integer> reach(int mark) {
        return reachKnown.computeIfAbsent(mark, m -> {
            Map<Integer, Integer> dist = new HashMap<>();
            dist.put(m, 0);
            Set<Integer> edge = Set.of(m);
            for (int d = 1; d <= 4; d++) {
                Set<Integer> next = new HashSet<>();
                for (int at : edge) {
                    for (int i : irons) {
                        for (int p : placements(i)) {
                            if (dist.putIfAbsent(at | p, d) == null) next.add(at | p);
                        }
                    }
                }
                edge = next;
            }
            return dist;
        });
    }

    private int burnings(int m, int o) {
        return Arrays.stream(placements(o)).map(p -> reach(m).getOrDefault(p, 99)).min().orElse(99);
    }

    int make(int m, int o) {
        if (!mark(m) || !mark(o)) return NONE;
        int d = burnings(m, o);
        return d == 99 ? NONE : d;
    }

    int forge(int b, int h) {
        lying = new ArrayList<>();
        if (!isBeast(b) || !herd(h)) return NONE;
        int d = make(now.hide(b), brands.get(h));
        if (d == NONE) return NONE;
        List<Integer> row = new ArrayList<>();
        if (!firstRow(now.hide(b), brands.get(h), d, row)) throw new IllegalStateException("no row");
        lying = row;
        return d;
    }

    /** Goes through all rows in their order, till one ends at the aim. */
    private boolean firstRow(int m, int aim, int left, List<Integer> row) {
        if (left == 0) return one(m, aim);
        if (!isUnder(m, aim)) return false;
        for (int i = 0; i < irons.size(); i++) {
            int[] ps = placements(irons.get(i));
            for (int p = 0; p < ps.length; p++) {
                row.add(i);
                row.add(p);
                if (firstRow(m | ps[p], aim, left - 1, row)) return true;
                row.remove(row.size() - 1);
                row.remove(row.size() - 1);
            }
        }
        return false;
    }

    int chain() {
        lying = longest(new ArrayList<>());
        return lying.size();
    }

    /** The first of the longest rows that go on from this one. */
    private List<Integer> longest(List<Integer> row) {
        List<Integer> best = new ArrayList<>(row);
        for (int h = 0; h < brands.size(); h++) {
            boolean fits = true;
            for (int r : row) fits = fits && !one(brands.get(r), brands.get(h));
            if (!row.isEmpty()) fits = fits && isUnder(brands.get(row.get(row.size() - 1)), brands.get(h));
            if (fits) {
                List<Integer> on = new ArrayList<>(row);
                on.add(h);
                on = longest(on);
                if (on.size() > best.size()) best = on;
            }
        }
        return best;
    }

    private interface Two { boolean is(int a, int b); }

    /** Herds for which no other herd that is not one with it is so. */
    private int without(Two is) {
        int out = 0;
        for (int h = 0; h < brands.size(); h++) {
            boolean ok = true;
            for (int o = 0; o < brands.size(); o++) {
                if (o != h && !one(brands.get(h), brands.get(o)) && is.is(brands.get(h), brands.get(o))) ok = false;
            }
            if (ok) out += 1 << h;
        }
        return out;
    }

    int lowest() { return without((h, o) -> isUnder(o, h)); }
    int highest() { return without(this::isUnder); }
    int safe() { return without((h, o) -> make(h, o) != NONE); }

    int fresh() {
        for (int size = 1; size <= 12; size++) {
            for (int m = 1; m < 4096; m++) {
                int mm = m;
                if (Integer.bitCount(m) == size && brands.stream().noneMatch(b -> isUnder(mm, b) || isUnder(b, mm))) return m;
            }
        }
        return NONE;
    }

    private static int set(int count, IntPredicate is) {
        int out = 0;
        for (int i = 0; i < count; i++) if (is.test(i)) out += 1 << i;
        return out;
    }

    int origins(int b) { return isBeast(b) ? set(brands.size(), h -> make(brands.get(h), now.hide(b)) != NONE) : NONE; }
    int read(int b) { return isBeast(b) ? set(brands.size(), h -> one(brands.get(h), showing(b, 0))) : NONE; }

    int claim(int h) {
        return herd(h) ? set(beasts.size(), b -> now.owners.get(b) != h && make(now.hide(b), brands.get(h)) != NONE) : NONE;
    }

    int king(int what) {
        if (brands.isEmpty() || what < 0 || what > 1) return NONE;
        int[] counts = new int[brands.size()];
        for (int k = 0; k < counts.length; k++) {
            for (int h = 0; h < counts.length; h++) if (h != k && make(brands.get(h), brands.get(k)) != NONE) counts[k]++;
        }
        int most = Arrays.stream(counts).max().getAsInt();
        if (what == 1) return most;
        for (int k = 0; k < counts.length; k++) if (counts[k] == most) return k;
        throw new IllegalStateException();
    }

    int tempt(int b, int what) {
        if (!isBeast(b) || what < 0 || what > 1) return NONE;
        for (int d = 1; d <= 4; d++) {
            for (int h = 0; h < brands.size(); h++) {
                if (h != now.owners.get(b) && make(now.hide(b), brands.get(h)) == d) return what == 0 ? h : d;
            }
        }
        return NONE;
    }

    int useful() {
        return set(irons.size(), i -> {
            for (int p : placements(irons.get(i))) {
                for (int h : brands) {
                    for (int o : brands) if (!one(h, o) && one(h | p, o)) return true;
                }
            }
            return false;
        });
    }

    int nearest(int m, int what) {
        if (brands.isEmpty() || !mark(m) || what < 0 || what > 1) return NONE;
        for (int d = 0; d <= 12; d++) {
            for (int h = 0; h < brands.size(); h++) {
                for (int p : placements(brands.get(h))) if (Integer.bitCount(p ^ m) == d) return what == 0 ? h : d;
            }
        }
        throw new IllegalStateException();
    }

    int shared(int h, int o) {
        if (!herd(h) || !herd(o)) return NONE;
        return Arrays.stream(placements(brands.get(h))).map(p -> Integer.bitCount(p & brands.get(o))).max().getAsInt();
    }

    int fades(int b) {
        if (!isBeast(b)) return NONE;
        for (int n = 0; n <= 60; n++) if (showing(b, n) == 0) return n;
        return NONE;
    }

    int twins() {
        int count = 0;
        for (int h = 0; h < brands.size(); h++) for (int o = 0; o < h; o++) if (one(brands.get(h), brands.get(o))) count++;
        return count;
    }

    int untouched() {
        return set(12, s -> now.hides.stream().noneMatch(h -> h.containsKey(s)));
    }

    int tells() {
        if (beasts.isEmpty()) return NONE;
        int best = 0;
        for (int s = 1; s < 12; s++) if (apart(s) < apart(best)) best = s;
        return best;
    }

    private int apart(int s) {
        return Math.abs(2 * (int) now.hides.stream().filter(h -> h.containsKey(s)).count() - beasts.size());
    }

    private int gain(int h, int b, int other) {
        int d = make(now.hide(b), brands.get(h));
        return d == NONE || b == other ? 0 : 10 - d;
    }

    int raid(int h, int o) {
        lying = new ArrayList<>();
        if (!herd(h) || !herd(o) || h == o || beasts.isEmpty()) return NONE;
        int rests = 0;
        for (int a = 0; a < beasts.size(); a++) {
            for (int b = 0; b < beasts.size(); b++) {
                boolean rest = true;
                for (int c = 0; c < beasts.size(); c++) {
                    if (gain(h, c, b) > gain(h, a, b) || gain(o, c, a) > gain(o, b, a)) rest = false;
                }
                if (rest && rests++ == 0) lying = List.of(a, b);
            }
        }
        return rests;
    }

    int closed() {
        for (int h = 0; h < brands.size(); h++) {
            for (int o = 0; o < brands.size(); o++) if (h != o && isUnder(brands.get(h), brands.get(o))) return 0;
        }
        return 1;
    }

    int faces(int m) { return mark(m) ? (int) Arrays.stream(placements(m)).distinct().count() : NONE; }
    int norm(int m) { return mark(m) ? Arrays.stream(placements(m)).min().getAsInt() : NONE; }
    int strays() { return set(beasts.size(), b -> !one(now.hide(b), brands.get(now.owners.get(b)))); }
    int oldest(int b) { return isBeast(b) ? now.hides.get(b).values().stream().mapToInt(a -> a).max().orElse(NONE) : NONE; }

    int will(int n) {
        if (n < 0 || n > 60) return NONE;
        int sum = 0;
        for (int b = 0; b < beasts.size(); b++) sum += Integer.bitCount(showing(b, n));
        return sum;
    }

    int law(int n) {
        if (n < 0 || n > 99) return NONE;
        int sum = 0;
        for (int b = 0; b < beasts.size(); b++) {
            for (int s : now.hides.get(b).keySet()) if (showsOne(b, s, n, now.season)) sum++;
        }
        return sum;
    }

    int odds(int n, int part) {
        if (n < 0 || n > 4 || part < 0 || part > 1) return NONE;
        java.math.BigInteger up = java.math.BigInteger.valueOf(100 - v.night).pow(n);
        java.math.BigInteger low = java.math.BigInteger.valueOf(100).pow(n);
        return (part == 0 ? up : low).divide(up.gcd(low)).intValueExact();
    }

    int lies(int i) { return i >= 0 && i < lying.size() ? lying.get(i) : NONE; }

    int seen(int burning, int stroke, boolean is) {
        if (burning < 1 || burning > 2 || stroke < 0 || stroke > 11 || sights.size() == 30 || beasts.isEmpty()) return NONE;
        sights.add(new Sight(burning, stroke, is, time, new int[] {Integer.MAX_VALUE}));
        return sights.size() - 1;
    }

    boolean untell(int s) {
        if (s < 0 || s >= sights.size() || sights.get(s).untold[0] != Integer.MAX_VALUE) return false;
        sights.get(s).untold[0] = time;
        return true;
    }

    int later(int by) {
        if (by < 0 || by > 1000 || time + by > 100000) return NONE;
        return time += by;
    }

    private List<int[]> allRows(int k) {
        List<int[]> out = new ArrayList<>();
        if (beasts.isEmpty()) return out;
        for (int i = 0; i < irons.size(); i++) {
            for (int p : placements(irons.get(i))) {
                for (int j = 0; j < irons.size(); j++) {
                    for (int q : placements(irons.get(j))) {
                        int first = brands.get(beasts.get(0)[0]) | p;
                        int second = first | q;
                        boolean so = sights.stream().filter(s -> s.told <= k && (s.untold[0] > k || s.untold[0] == Integer.MAX_VALUE))
                            .allMatch(s -> ((s.burning == 1 ? first : second) >> s.stroke & 1) == (s.is ? 1 : 0));
                        if (so) out.add(new int[] {i, j});
                    }
                }
            }
        }
        return out;
    }

    int rows(int k) { return allRows(k).size(); }

    int sure(int burning, int k) {
        List<int[]> rows = allRows(k);
        if (burning < 1 || burning > 2 || rows.isEmpty()) return NONE;
        int[] irons = rows.stream().mapToInt(r -> r[burning - 1]).distinct().toArray();
        return irons.length == 1 ? irons[0] : -2;
    }

    int ask(int what, int k) {
        List<int[]> rows = allRows(k);
        if (what < 0 || what > 1 || rows.isEmpty()) return NONE;
        int[] left = new int[2];
        for (int b = 0; b < 2; b++) {
            int bb = b;
            for (int i = 0; i < irons.size(); i++) {
                int ii = i;
                left[b] = Math.max(left[b], (int) rows.stream().filter(r -> r[bb] == ii).count());
            }
        }
        int burning = left[0] <= left[1] ? 1 : 2;
        return what == 0 ? burning : left[burning - 1];
    }

    int image(int box) {
        if (box < 0 || box > 2) return NONE;
        boxes.put(box, now.copy());
        return now.season;
    }

    int back(int box) {
        if (!boxes.containsKey(box)) return NONE;
        now = boxes.get(box).copy();
        past.clear();
        future.clear();
        return now.season;
    }

    int about(int what) {
        int[] all = {brands.size(), irons.size(), beasts.size(), placements(0).length, now.season, now.seed, past.size(), future.size(),
            sights.size(), time, tape.length(), v.units, lying.size(), v.night, v.turns};
        return what >= 0 && what < all.length ? all[what] : NONE;
    }
}
