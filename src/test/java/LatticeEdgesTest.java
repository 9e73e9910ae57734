/** The LATTICE, stroke by stroke and placement by placement; the edges of promises 10, 11, 39 and 40. */
public final class LatticeEdgesTest {
    private static final Checks CHECKS = new Checks();
    // An object is used for 512 calls at most.
    private static final int CALLS = 400;

    public static void main(String[] args) {
        strokesByTheirPoints();
        placementsOfEachStroke();
        howManyPlacements();
        noSuchPlacement();
        noSuchMark();
        eachIsUnderItself();
        underAndOne();
        facesAndNorms();
        emptyAndFull();
        askedInAllPlacements();
        CHECKS.close("LatticeEdgesTest");
    }

    private static void due(String what, long got, long want) {
        CHECKS.due(what, got, want);
    }

    private static final String[] TEXTS = {"", "turns 1;", "turns 2;", "turns 4;", "mirror;", "turns 2;mirror;", "turns 4;mirror;"};
    private static final int[] TURNS = {1, 1, 2, 4, 1, 2, 4};

    /** The stroke between two points that lie beside one another. */
    private static int between(int x1, int y1, int x2, int y2) {
        return y1 == y2 ? 2 * y1 + Math.min(x1, x2) : 6 + 3 * Math.min(y1, y2) + x1;
    }

    private static int[] points(int stroke) {
        if (stroke < 6) {
            return new int[] {stroke % 2, stroke / 2, stroke % 2 + 1, stroke / 2};
        }
        int s = stroke - 6;
        return new int[] {s % 3, s / 3, s % 3, s / 3 + 1};
    }

    private static int moved(int stroke, int quarters, boolean isMirrored) {
        int[] p = points(stroke);
        if (isMirrored) {
            p = new int[] {2 - p[0], p[1], 2 - p[2], p[3]};
        }
        for (int i = 0; i < quarters; i++) {
            p = new int[] {2 - p[1], p[0], 2 - p[3], p[2]};
        }
        return between(p[0], p[1], p[2], p[3]);
    }

    private static int moved(int mark, int turns, int placement) {
        int out = 0;
        for (int s = 0; s < 12; s++) {
            if ((mark >> s & 1) == 1) {
                out |= 1 << moved(s, placement % turns * (4 / turns), placement >= turns);
            }
        }
        return out;
    }

    /** "STROKE 2 y + x leads from (x, y) to (x + 1, y); STROKE 6 + 3 y + x from (x, y) to (x, y + 1)": as drawn by hand. */
    private static void strokesByTheirPoints() {
        HideReader quarter = Checks.told("turns 4;");
        int[] once = {8, 11, 7, 10, 6, 9, 1, 3, 5, 0, 2, 4};
        HideReader mirror = Checks.told("mirror;");
        int[] mirrored = {1, 0, 3, 2, 5, 4, 8, 7, 6, 11, 10, 9};
        HideReader half = Checks.told("turns 2;");
        int[] round = {5, 4, 3, 2, 1, 0, 11, 10, 9, 8, 7, 6};
        for (int s = 0; s < 12; s++) {
            due("a quarter turn of " + s, quarter.placed(1 << s, 1), 1 << once[s]);
            due("the mirror of " + s, mirror.placed(1 << s, 1), 1 << mirrored[s]);
            due("half a turn of " + s, half.placed(1 << s, 1), 1 << round[s]);
            due("as it is: " + s, quarter.placed(1 << s, 0), 1 << s);
        }
    }

    private static void placementsOfEachStroke() {
        for (int t = 0; t < TEXTS.length; t++) {
            HideReader r = Checks.told(TEXTS[t]);
            int count = TEXTS[t].contains("mirror") ? 2 * TURNS[t] : TURNS[t];
            for (int p = 0; p < count; p++) {
                for (int s = 0; s < 12; s++) {
                    due(TEXTS[t] + " placed(" + (1 << s) + ", " + p + ")", r.placed(1 << s, p), moved(1 << s, TURNS[t], p));
                }
                for (int mark : new int[] {3, 65, 197, 131, 1365, 2730, 63, 4032, 4094, 2047}) {
                    due(TEXTS[t] + " placed(" + mark + ", " + p + ")", r.placed(mark, p), moved(mark, TURNS[t], p));
                }
            }
        }
    }

    private static void howManyPlacements() {
        int[] counts = {1, 1, 2, 4, 2, 4, 8};
        for (int t = 0; t < TEXTS.length; t++) {
            HideReader r = Checks.told(TEXTS[t] + "herd a strokes 0;iron i strokes 1;beast b of a;");
            due(TEXTS[t] + " about(3)", r.about(3), counts[t]);
            due(TEXTS[t] + " placed, the last", r.placed(1, counts[t] - 1), moved(1, TURNS[t], counts[t] - 1));
            due(TEXTS[t] + " placed behind the last", r.placed(1, counts[t]), -1);
            due(TEXTS[t] + " burn in one behind the last", r.burn(0, 0, counts[t]), -1);
            due(TEXTS[t] + " burn before the first", r.burn(0, 0, -1), -1);
            due(TEXTS[t] + " no ACT", r.about(6), 0);
            int came = moved(2, TURNS[t], counts[t] - 1) & ~1;
            due(TEXTS[t] + " burn in the last", r.burn(0, 0, counts[t] - 1), Integer.bitCount(came));
            due(TEXTS[t] + " its HIDE", r.beast(0, 0), 1 | came);
            due(TEXTS[t] + " rows", r.rows(0), counts[t] * counts[t]);
        }
        due("about(3) of a new object", new HideReader().about(3), 1);
    }

    private static void noSuchPlacement() {
        HideReader r = Checks.told("turns 4;mirror;");
        for (int p : new int[] {Integer.MIN_VALUE, -8, -1, 8, 9, 16, 64, Integer.MAX_VALUE}) {
            due("placed(1, " + p + ")", r.placed(1, p), -1);
        }
        HideReader plain = new HideReader();
        for (int p : new int[] {Integer.MIN_VALUE, -1, 1, 2, 4, 7, Integer.MAX_VALUE}) {
            due("turns 1: placed(1, " + p + ")", plain.placed(1, p), -1);
        }
        // A placement that was there before another valley.
        Checks.feed(r, "turns 2;");
        r.valley();
        due("placed(1, 1), turns 2", r.placed(1, 1), 32);
        due("placed(1, 2), turns 2", r.placed(1, 2), -1);
    }

    /** "a MARK (as bits, 0 .. 4095)". */
    private static void noSuchMark() {
        for (String text : new String[] {"herd a strokes 0;", "turns 4;mirror;herd a strokes 0;"}) {
            HideReader r = Checks.told(text);
            for (int m : new int[] {Integer.MIN_VALUE, -4096, -1, 4096, 4097, 8191, 65536, Integer.MAX_VALUE}) {
                due("placed(" + m + ", 0)", r.placed(m, 0), -1);
                due("under(" + m + ", 1)", r.under(m, 1), -1);
                due("under(1, " + m + ")", r.under(1, m), -1);
                due("under(" + m + ", " + m + ")", r.under(m, m), -1);
                due("make(" + m + ", 1)", r.make(m, 1), -1);
                due("make(1, " + m + ")", r.make(1, m), -1);
                due("make(" + m + ", " + m + ")", r.make(m, m), -1);
                due("nearest(" + m + ", 0)", r.nearest(m, 0), -1);
                due("nearest(" + m + ", 1)", r.nearest(m, 1), -1);
                due("faces(" + m + ")", r.faces(m), -1);
                due("norm(" + m + ")", r.norm(m), -1);
            }
            for (int m : new int[] {0, 1, 4094, 4095}) {
                due("placed(" + m + ", 0)", r.placed(m, 0), m);
                due("under(" + m + ", 4095)", r.under(m, 4095), 1);
                due("under(0, " + m + ")", r.under(0, m), 1);
                due("make(" + m + ", " + m + ")", r.make(m, m), 0);
                due("nearest(" + m + ", 0)", r.nearest(m, 0), 0);
                due("a face at least", r.faces(m) >= 1 ? 1 : 0, 1);
                due("a norm", r.norm(m) >= 0 && r.norm(m) <= m ? 1 : 0, 1);
            }
        }
    }

    /** "so each is UNDER itself". */
    private static void eachIsUnderItself() {
        for (int from = 0; from < 4096; from += CALLS) {
            HideReader r = Checks.told("turns 4;mirror;");
            for (int m = from; m < Math.min(4096, from + CALLS); m++) {
                due("under(" + m + ", " + m + ")", r.under(m, m), 1);
            }
        }
    }

    private static void underAndOne() {
        for (int t = 0; t < TEXTS.length; t++) {
            HideReader r = Checks.told(TEXTS[t]);
            int count = TEXTS[t].contains("mirror") ? 2 * TURNS[t] : TURNS[t];
            for (int a = 1; a < 4096; a += 613) {
                for (int b = 3; b < 4096; b += 409) {
                    boolean isUnder = false;
                    for (int p = 0; p < count; p++) {
                        isUnder = isUnder || (moved(a, TURNS[t], p) & ~b) == 0;
                    }
                    due(TEXTS[t] + " under(" + a + ", " + b + ")", r.under(a, b), isUnder ? 1 : 0);
                }
            }
        }
        HideReader plain = new HideReader();
        due("under(1, 3)", plain.under(1, 3), 1);
        due("under(3, 1)", plain.under(3, 1), 0);
        due("under(1, 2), turns 1", plain.under(1, 2), 0);
        HideReader mirror = Checks.told("mirror;");
        due("under(1, 2), mirror", mirror.under(1, 2), 1);
        due("under(1, 16), mirror", mirror.under(1, 16), 0);
        HideReader half = Checks.told("turns 2;");
        due("under(1, 32), turns 2", half.under(1, 32), 1);
        due("under(1, 2), turns 2", half.under(1, 2), 0);
        due("under(1, 256), turns 2", half.under(1, 256), 0);
        HideReader quarter = Checks.told("turns 4;");
        due("under(1, 256), turns 4", quarter.under(1, 256), 1);
        due("under(1, 2), turns 4", quarter.under(1, 2), 0);
        due("under(1, 4), all", Checks.told("turns 4;mirror;").under(1, 4), 0);
    }

    /** "How many unlike PLACEMENTS (as MARKS)"; "The least of all PLACEMENTS". */
    private static void facesAndNorms() {
        for (int t = 0; t < TEXTS.length; t++) {
            int count = TEXTS[t].contains("mirror") ? 2 * TURNS[t] : TURNS[t];
            HideReader r = Checks.told(TEXTS[t]);
            for (int m = 0; m < 4096; m += 21) {
                java.util.TreeSet<Integer> all = new java.util.TreeSet<>();
                for (int p = 0; p < count; p++) {
                    all.add(moved(m, TURNS[t], p));
                }
                due(TEXTS[t] + " faces(" + m + ")", r.faces(m), all.size());
                due(TEXTS[t] + " norm(" + m + ")", r.norm(m), all.first());
            }
        }
        HideReader r = Checks.told("turns 4;mirror;");
        due("faces of one stroke at the side", r.faces(1), 8);
        due("faces of one stroke inside", r.faces(4), 4);
        due("faces of a corner", r.faces(65), 4);
        due("faces of a cross", r.faces(Checks.bits(2, 3, 7, 10)), 1);
        due("faces of the frame", r.faces(Checks.bits(0, 1, 4, 5, 6, 8, 9, 11)), 1);
        due("faces of a pinwheel", r.faces(Checks.bits(0, 5, 8, 9)), 2);
        due("norm of the last stroke", r.norm(2048), 1);
    }

    private static void emptyAndFull() {
        for (int t = 0; t < TEXTS.length; t++) {
            HideReader r = Checks.told(TEXTS[t]);
            due(TEXTS[t] + " faces(0)", r.faces(0), 1);
            due(TEXTS[t] + " faces(4095)", r.faces(4095), 1);
            due(TEXTS[t] + " norm(0)", r.norm(0), 0);
            due(TEXTS[t] + " norm(4095)", r.norm(4095), 4095);
            due(TEXTS[t] + " under(0, 0)", r.under(0, 0), 1);
            due(TEXTS[t] + " under(0, 4095)", r.under(0, 4095), 1);
            due(TEXTS[t] + " under(4095, 0)", r.under(4095, 0), 0);
            due(TEXTS[t] + " under(4095, 4094)", r.under(4095, 4094), 0);
            due(TEXTS[t] + " under(4094, 4095)", r.under(4094, 4095), 1);
            due(TEXTS[t] + " under(1, 0)", r.under(1, 0), 0);
        }
    }

    /** What is asked of MARKS that are ONE, where there are as many placements as can be, and where there are fewer behind more. */
    private static void askedInAllPlacements() {
        String text = "herd a strokes 6 9;herd b strokes 1;herd c strokes 2;herd d strokes 4 5;beast x of a;beast y of b;beast z of c;";
        HideReader r = Checks.told("turns 4;mirror;" + text);
        for (int round = 0; round < 2; round++) {
            boolean isTurned = round == 0;
            due("read(0)", r.read(0), isTurned ? 9 : 1);
            due("read(1)", r.read(1), 2);
            due("strays()", r.strays(), 0);
            due("shared(0, 3)", r.shared(0, 3), isTurned ? 2 : 0);
            due("shared(0, 2)", r.shared(0, 2), 0);
            due("shared(1, 2)", r.shared(1, 2), 0);
            due("nearest(48, 0)", r.nearest(48, 0), isTurned ? 0 : 3);
            due("nearest(64, 1)", r.nearest(64, 1), isTurned ? 0 : 1);
            due("under(64, 32)", r.under(64, 32), isTurned ? 1 : 0);
            due("faces(1)", r.faces(1), isTurned ? 8 : 1);
            due("norm(2048)", r.norm(2048), isTurned ? 1 : 2048);
            due("twins()", r.twins(), isTurned ? 1 : 0);
            due("closed()", r.closed(), isTurned ? 0 : 1);
            r.sell(0, 3);
            due("strays(), sold to d", r.strays(), isTurned ? 0 : 1);
            r.sell(1, 2);
            due("strays(), sold to c", r.strays(), isTurned ? 2 : 3);
            Checks.feed(r, text);
            r.valley();
        }
    }
}
