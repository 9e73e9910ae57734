import java.io.IOException;
import java.util.List;

/** "Terms", from its first sentence to its last: each is quoted, and answered for by the calls behind it. */
public final class DocTermsTest {
    private static final Checks CHECKS = new Checks();
    // Where a stroke comes to by a quarter turn, and by the mirror: worked out by hand from the points.
    private static final int[] QUARTER = {8, 11, 7, 10, 6, 9, 1, 3, 5, 0, 2, 4};
    private static final int[] MIRROR = {1, 0, 3, 2, 5, 4, 8, 7, 6, 11, 10, 9};
    private static final int ALL_THREE = Checks.bits(0, 5, 11);
    // Brands 1, 3, 131, 16; irons 2, 128, 48. Each is placed only as it is.
    private static final String BOOK = "herd a strokes 0;herd b strokes 0 1;herd c strokes 0 1 7;herd d strokes 4;"
        + "iron i strokes 1;iron j strokes 7;iron k strokes 4 5;";
    private static final String BEASTS = BOOK + "beast x of a born 3;beast y of b;";
    private static Quotes d;

    public static void main(String[] args) throws IOException {
        d = new Quotes(CHECKS, "## Terms", "## Promise 1:");
        lines();
        formulas();
        tokens();
        limits();
        unitsAndDepth();
        faults();
        lattice();
        placements();
        hides();
        showing();
        seasons();
        otherActs();
        undoing();
        making();
        herdsAndHides();
        safety();
        choosing();
        seen();
        knownAt();
        d.close();
        CHECKS.close("DocTermsTest");
    }

    private static void lines() {
        d.says("A VALLEY is a text of at most 1,600 bytes (empty at first): valley = {line}.");
        HideReader r = new HideReader();
        d.due("valley() of a new object", r.valley(), 0);
        d.fine("mirror;" + " ".repeat(1593));
        d.fine("mirror;turns 2;night 3;draw 4;");
        for (int i = 1; i <= 80; i++) {
            d.due("feed " + i, r.feed(0x20202020, 0x20202020, 0x20202020, 0x20202020, 0x20202020), 20 * i);
        }
        d.due("feed beyond 1,600", r.feed(0x20202020, 0x20202020, 0x20202020, 0x20202020, 0x20202020), -1);

        d.says("line = turns N ; | mirror ; | herd NAME strokes N {N} ; | iron NAME strokes N {N} ; |"
            + " beast NAME of NAME [born N] ; | shows e ; | night N ; | draw N ;.");
        d.fine("turns 1;mirror;herd a strokes 0;herd b strokes 1 2;iron a strokes 0;iron b strokes 1 2;beast a of a;beast b of a born 1;shows 1;night 1;draw 1;");
        d.fault("turns;", 2, 5);
        d.fault("turns 1 1;", 2, 8);
        d.fault("mirror 1;", 2, 7);
        d.fault("mirror", 2, 6);
        for (String sort : List.of("herd", "iron")) {
            d.fault(sort + " strokes 0;", 2, 5);
            d.fault(sort + " a 0;", 2, 7);
            d.fault(sort + " a strokes;", 2, 14);
            d.fault(sort + " a strokes 0 x;", 2, 17);
            d.fault(sort + " a strokes 0", 2, 16);
        }
        d.fault("herd a strokes 0;beast of a;", 2, 23);
        d.fault("herd a strokes 0;beast b a;", 2, 25);
        d.fault("herd a strokes 0;beast b of;", 2, 27);
        d.fault("herd a strokes 0;beast b of a 1;", 2, 30);
        d.fault("herd a strokes 0;beast b of a born;", 2, 34);
        d.fault("herd a strokes 0;beast b of a born 1 2;", 2, 37);
        d.fault("herd a strokes 0;beast b of a born 1 born 2;", 2, 37);
        d.fault("shows;", 2, 5);
        d.fault("night;", 2, 5);
        d.fault("draw;", 2, 4);
        d.fault("strokes 1;", 2, 0);
        d.fault("turns 1;;", 2, 8);
    }

    /** What shows of a hide with the strokes 0, 5 and 11, all of age 7, born 7. */
    private static int shown(String formula) {
        return Checks.told("herd a strokes 0 5 11;beast b of a born 7;shows " + formula + ";").beast(0, 1);
    }

    private static void holds(String formula) {
        d.due("shows " + formula, shown(formula), ALL_THREE);
    }

    private static void fails(String formula) {
        d.due("shows " + formula, shown(formula), 0);
    }

    private static void formulas() {
        d.says("e = both {or both}.");
        holds("0 or 0 or 1");
        holds("1 or 0 and 0");
        fails("0 or 0 or 0");
        d.fault("shows 1 or;", 2, 10);
        d.says("both = one {and one}.");
        holds("1 and 2 and 3");
        fails("1 and 2 and 0");
        fails("0 and 1 or 0");
        d.fault("shows and 1;", 2, 6);
        d.says("one = not one | sum [(< | > | =) sum].");
        holds("not not 3");
        holds("not 2 > 3");
        holds("not 0 and 1");
        holds("1 + 1 < 3");
        holds("3 > 1 + 1");
        holds("1 + 2 = 2 + 1");
        fails("not 1 or 0");
        fails("not 1 and 0");
        d.fault("shows 1 < 2 < 3;", 2, 12);
        d.fault("shows 1 = not 2;", 2, 10);
        d.says("sum = term {(+ | -) term}.");
        holds("9 - 4 - 3 = 2");
        holds("9 - 4 + 3 = 8");
        holds("1 + 2 + 3 + 4 = 10");
        d.fault("shows - 1;", 2, 6);
        d.says("term = unit {(* | / | %) unit}.");
        holds("2 + 3 * 4 = 14");
        holds("24 / 4 / 2 = 3");
        holds("24 / 4 * 2 = 12");
        holds("17 % 10 % 4 = 3");
        holds("20 - 2 * 3 = 14");
        d.fault("shows 2 * * 3;", 2, 10);
        d.says("unit = N | age | scars | stroke | born | season | ( e ).");
        holds("9999 = 9999");
        holds("age = 7");
        holds("scars = 3");
        d.due("shows stroke = 5", shown("stroke = 5"), 1 << 5);
        holds("born = 7");
        holds("season = 0");
        holds("(0 or 1) + (1 and not 0) = 2");
        d.fault("shows x;", 2, 6);
        d.fault("shows ();", 2, 7);
        d.fault("shows (1;", 2, 8);
        d.fault("shows 1);", 2, 7);
    }

    private static void tokens() {
        d.says("TOKENS: words (a .. z, 8 at most),");
        d.fine("herd abcdefgh strokes 0;iron z strokes 0;");
        d.fault("herd abcdefghi strokes 0;", 1, 5);
        d.fault("herd A strokes 0;", 1, 5);
        d.fault("herd \u00e9 strokes 0;", 1, 5);
        d.says("N (1 to 4 digits),");
        d.fine("draw 7;shows 9999;");
        d.fine("draw 0999;");
        d.fault("draw 00999;", 1, 5);
        d.fault("shows 10000;", 1, 6);
        d.says("signs ; ( ) < > = + - * / %;");
        d.fine("shows ( 1 < 2 ) + ( 2 > 1 ) * 3 - 4 / 5 % 6 = 7 ;");
        for (char c : ",.:!?&|^~#$@[]{}\"'\\_`".toCharArray()) {
            d.fault("shows 1" + c, 1, 7);
        }
        d.says("blanks (32, 10) part them or not;");
        d.fine("turns4;herd a strokes0 1;shows(age)<3;");
        d.fine("\nturns\n4\n;\n  \n");
        d.fault("turns\t4;", 1, 5);
        d.fault("turns\r4;", 1, 5);
        d.fault("tur ns 4;", 2, 0);
        d.due("strokes 1 0", Checks.told("herd a strokes 1\n0;").brand(0), 3);
        d.says("each is as long as can be;");
        d.due("strokes 10", Checks.told("herd a strokes 10;").brand(0), 1 << 10);
        d.fault("herda strokes 0;", 2, 0);
        d.fault("turns 12;", 4, 6);
        d.fault("shows notage;", 2, 6);
        d.says("no letter directly behind an N.");
        d.fault("shows 1or 2;", 1, 6);
        d.fault("herd a strokes 0;beast b of a born 5x;", 1, 35);
        d.fine("shows 1 or(2)or 3;");
        d.says("Words that stand for themselves here are no NAMES.");
        for (String word : List.of("turns", "mirror", "herd", "strokes", "iron", "beast", "of", "born", "shows", "night", "draw",
            "or", "and", "not", "age", "scars", "stroke", "season")) {
            d.fault("herd " + word + " strokes 0;", 2, 5);
            d.fault("iron " + word + " strokes 0;", 2, 5);
            d.fault("herd a strokes 0;beast " + word + " of a;", 2, 23);
            d.fault("herd a strokes 0;beast b of " + word + ";", 2, 28);
        }
        for (String word : List.of("valley", "line", "e", "both", "one", "sum", "term", "unit", "n", "name", "tokens")) {
            d.fine("herd " + word + " strokes 0;iron " + word + " strokes 0;beast " + word + " of " + word + ";");
        }
    }

    private static String many(String sort, int count) {
        StringBuilder s = new StringBuilder();
        for (int i = 0; i < count; i++) {
            s.append(sort).append(" n").append((char) ('a' + i)).append(sort.equals("beast") ? " of na;" : " strokes " + (i + 3) + ";");
        }
        return s.toString();
    }

    private static void limits() {
        d.says("turns (1, 2 or 4; 1 if not told), mirror once each;");
        for (int n : new int[] {1, 2, 4}) {
            d.due("about(14)", Checks.told("turns " + n + ";").about(14), n);
            d.due("about(3)", Checks.told("mirror;turns " + n + ";").about(3), 2 * n);
        }
        for (int n : new int[] {0, 3, 5, 6, 8}) {
            d.fault("turns " + n + ";", 4, 6);
        }
        d.due("about(14)", Checks.told("mirror;").about(14), 1);
        d.fault("turns 1;turns 1;", 2, 8);
        d.fault("mirror;mirror;", 2, 7);
        d.says("at most 8 HERDS, 6 IRONS (each of unlike STROKES 0 .. 11),");
        d.due("about(0)", Checks.told(many("herd", 8)).about(0), 8);
        d.fault(many("herd", 9), 2, many("herd", 8).length());
        d.due("about(1)", Checks.told(many("iron", 6)).about(1), 6);
        d.fault(many("iron", 7), 2, many("iron", 6).length());
        for (String sort : List.of("herd", "iron")) {
            d.fine(sort + " a strokes 0 1 2 3 4 5 6 7 8 9 10 11;");
            d.fault(sort + " a strokes 12;", 4, 15);
            d.fault(sort + " a strokes 3 3;", 3, 17);
        }
        d.says("8 BEASTS (of a HERD told ahead; born 0 .. 99, 0 if not told),");
        d.due("about(2)", Checks.told(many("herd", 1) + many("beast", 8)).about(2), 8);
        d.fault(many("herd", 1) + many("beast", 9), 2, (many("herd", 1) + many("beast", 8)).length());
        d.fault("beast b of a;herd a strokes 0;", 5, 11);
        HideReader born = Checks.told("herd a strokes 0;beast b of a born 0;beast c of a born 99;beast d of a;");
        d.due("born 0", born.beast(0, 4), 0);
        d.due("born 99", born.beast(1, 4), 99);
        d.due("not told", born.beast(2, 4), 0);
        d.fault("herd a strokes 0;beast b of a born 100;", 4, 35);
        d.says("numbered as told, each sort by itself;");
        HideReader r = Checks.told("iron z strokes 9;herd z strokes 3;beast z of z born 1;herd a strokes 2;iron a strokes 4;beast a of z born 2;");
        d.due("brand(0)", r.brand(0), 1 << 3);
        d.due("brand(1)", r.brand(1), 1 << 2);
        d.due("iron(0)", r.iron(0), 1 << 9);
        d.due("iron(1)", r.iron(1), 1 << 4);
        d.due("beast(0, 4)", r.beast(0, 4), 1);
        d.due("beast(1, 4)", r.beast(1, 4), 2);
        d.says("shows, night (0 .. 100 of 100; 0), draw (0 .. 999; 0) once each;");
        d.due("night 0", Checks.told("night 0;").about(13), 0);
        d.due("night 100", Checks.told("night 100;").about(13), 100);
        d.fault("night 101;", 4, 6);
        d.due("night, not told", Checks.told("draw 5;").about(13), 0);
        d.due("draw 0", Checks.told("draw 0;").about(5), 0);
        d.due("draw 999", Checks.told("draw 999;").about(5), 999);
        d.fault("draw 1000;", 4, 5);
        d.due("draw, not told", Checks.told("night 5;").about(5), 0);
        d.fault("shows 1;shows 1;", 2, 8);
        d.fault("night 1;night 1;", 2, 8);
        d.fault("draw 1;draw 1;", 2, 7);
    }

    private static void unitsAndDepth() {
        d.says("60 units in all, 30 in one e");
        d.due("30 units", Checks.told("shows 1" + "+1".repeat(29) + ";").about(11), 30);
        d.fault("shows 1" + "+1".repeat(30) + ";", 2, 66);
        d.due("15 units and as many ( e )", Checks.told("shows (1)" + "+(1)".repeat(14) + ";").about(11), 30);
        d.fault("shows (1)" + "+(1)".repeat(14) + "+age;", 2, 66);
        d.says("(a unit ( e ), or a one behind not, within 6 others at most).");
        d.fine("shows (((((((1)))))));");
        d.fault("shows ((((((((1))))))));", 2, 13);
        d.fine("shows not not not not not not not 1;");
        d.fault("shows not not not not not not not not 1;", 2, 34);
        d.fine("shows not (not (not (not 1)));");
        d.fault("shows not (not (not (not (1))));", 2, 25);
        d.fine("shows ((((((1)))))) + ((((((1)))))) and not not not not not not not 1;");
    }

    private static void faults() {
        d.says("FAULTS, the first by its place (bytes from 0; the end: the text's length), at one place the least:");
        d.fault("?", 1, 0);
        d.fault(" turns  ", 2, 8);
        d.fault("turns 3;beast a of a;?", 4, 6);
        d.fault("turns 33333;", 1, 6);
        d.fault("herd a strokes 0;beast b of of;", 2, 28);
        d.says("1 no TOKEN;");
        d.fault("mirror,", 1, 6);
        d.fault("mirror;\0", 1, 7);
        d.fault("abcdefghij", 1, 0);
        d.says("2 one that can't stand there (one of a sort too many or a second time: at the line's first word;"
            + " a unit too many, what is within 7 others: at its first TOKEN, or the not);");
        d.fault("mirror 5", 2, 7);
        d.fault(many("herd", 8) + "  herd na strokes 77;", 2, many("herd", 8).length() + 2);
        d.fault(many("iron", 6) + "iron ?", 2, many("iron", 6).length());
        d.fault("night 5;\nnight 500;", 2, 9);
        d.fault("shows 1" + "+1".repeat(29) + " + (2);", 2, 68);
        d.fault("shows (((((((1 + ( 2 ))))))));", 2, 17);
        d.fault("shows (((((((1 = 2 and not 2)))))));", 2, 23);
        d.says("3 a NAME told already (of its sort), a STROKE told already in its line;");
        d.fault("herd a strokes 0;herd a strokes 1;", 3, 22);
        d.fault("iron a strokes 0;iron a strokes 1;", 3, 22);
        d.fault("herd a strokes 0;beast a of a;beast a of a;", 3, 36);
        d.fine("herd a strokes 0;iron a strokes 0;beast a of a;");
        d.fine("herd b strokes 0;beast a of b;herd a strokes 0;iron a strokes 0;");
        d.fault("herd a strokes 0 5 05;", 3, 19);
        d.fine("herd a strokes 0 5;herd b strokes 0 5;");
        d.says("4 a number that can't be (turns 3, too);");
        d.fault("turns 3;", 4, 6);
        d.fault("herd a strokes 0 12;", 4, 17);
        d.fault("night 999;", 4, 6);
        d.says("5 a NAME that no HERD has.");
        d.fault("herd a strokes 0;iron b strokes 0;beast c of b;", 5, 45);
        d.fault("herd a strokes 0;beast c of a;beast e of c;", 5, 41);
    }

    private static void lattice() {
        HideReader turned = Checks.told("turns 4;mirror;");
        d.says("The LATTICE has 3 by 3 points (x, y: 0 .. 2).");
        d.due("twelve strokes", turned.placed(4095, 7), 4095);
        d.due("no more", turned.placed(4096, 7), -1);
        d.says("STROKE 2 y + x (x 0 .. 1, y 0 .. 2) leads from (x, y) to (x + 1, y);");
        for (int y = 0; y < 3; y++) {
            for (int x = 0; x < 2; x++) {
                // Turned it leads from (2 - y, x) to (2 - y, x + 1), mirrored from (1 - x, y) to (2 - x, y).
                d.due("turned", turned.placed(1 << 2 * y + x, 1), 1 << 6 + 3 * x + (2 - y));
                d.due("mirrored", turned.placed(1 << 2 * y + x, 4), 1 << 2 * y + (1 - x));
            }
        }
        d.says("STROKE 6 + 3 y + x (x 0 .. 2, y 0 .. 1) from (x, y) to (x, y + 1).");
        for (int y = 0; y < 2; y++) {
            for (int x = 0; x < 3; x++) {
                // Turned it leads from (1 - y, x) to (2 - y, x), mirrored from (2 - x, y) to (2 - x, y + 1).
                d.due("turned", turned.placed(1 << 6 + 3 * y + x, 1), 1 << 2 * x + (1 - y));
                d.due("mirrored", turned.placed(1 << 6 + 3 * y + x, 4), 1 << 6 + 3 * y + (2 - x));
            }
        }
        d.says("MARKS are sets of STROKES.");
        d.due("in any order", Checks.told("herd a strokes 11 2 0;").brand(0), 2053);
        d.due("a mark moves stroke by stroke", turned.placed(1 | 1 << 7, 1), 1 << 8 | 1 << 3);
        d.says("A quarter turn brings (x, y) to (2 - y, x), the mirror (x, y) to (2 - x, y).");
        for (int s = 0; s < 12; s++) {
            d.due("a quarter turn of " + s, turned.placed(1 << s, 1), 1 << QUARTER[s]);
            d.due("the mirror of " + s, turned.placed(1 << s, 4), 1 << MIRROR[s]);
        }
    }

    private static int moved(int mark, int[] way) {
        int out = 0;
        for (int s = 0; s < 12; s++) {
            out |= (mark >> s & 1) << way[s];
        }
        return out;
    }

    private static void placements() {
        d.says("PLACEMENTS of a MARK: as it is (0); if turns is 2, half a turn round (1); if it is 4, one, two, three quarter turns round (1 .. 3);"
            + " if mirror is told, each of these mirrored first, then turned, too (behind the others, in the same order).");
        for (int turns : new int[] {1, 2, 4}) {
            for (String mirror : List.of("", "mirror;")) {
                HideReader r = Checks.told(mirror + "turns " + turns + ";");
                for (int mark : new int[] {1, 4, 65, 0x123, 0xe07, 4095}) {
                    int p = 0;
                    for (int side = 0; side < (mirror.isEmpty() ? 1 : 2); side++) {
                        int now = side == 0 ? mark : moved(mark, MIRROR);
                        for (int t = 0; t < turns; t++) {
                            d.due("turns " + turns + ";" + mirror + " placed(" + mark + ", " + p + ")", r.placed(mark, p), now);
                            now = turns == 4 ? moved(now, QUARTER) : moved(moved(now, QUARTER), QUARTER);
                            p++;
                        }
                    }
                    d.due("no placement " + p, r.placed(mark, p), -1);
                }
            }
        }
        d.says("Two MARKS are ONE, if one is a PLACEMENT of the other one.");
        String twins = "herd a strokes 0 6;herd b strokes 5 11;herd c strokes 1 8;";
        d.due("as they are", Checks.told(twins).twins(), 0);
        d.due("half a turn round", Checks.told(twins + "turns 2;").twins(), 1);
        d.due("mirrored", Checks.told(twins + "mirror;").twins(), 1);
        d.due("turned", Checks.told(twins + "turns 4;").twins(), 3);
        d.says("A MARK is UNDER another one, if a PLACEMENT of it has no STROKE that the other one has not (so each is UNDER itself).");
        HideReader plain = Checks.told("");
        HideReader turned = Checks.told("turns 4;");
        d.due("under(1, 3)", plain.under(1, 3), 1);
        d.due("under(3, 1)", plain.under(3, 1), 0);
        d.due("under(256, 3)", plain.under(256, 3), 0);
        d.due("turned: under(256, 3)", turned.under(256, 3), 1);
        d.due("turned: under(257, 3)", turned.under(257, 3), 0);
        for (int mark : new int[] {0, 1, 1000, 4095}) {
            d.due("under itself", plain.under(mark, mark), 1);
        }
    }

    private static void hides() {
        HideReader r = Checks.told(BEASTS);
        d.says("The HIDE of a BEAST is a MARK (the brand of the HERD that is told, at first);");
        d.due("beast(0, 0)", r.beast(0, 0), 1);
        d.due("beast(1, 0)", r.beast(1, 0), 3);
        d.says("each STROKE on it has its AGE (as old as born tells, at first).");
        d.due("age(0, 0)", r.age(0, 0), 3);
        d.due("age(1, 1)", r.age(1, 1), 0);
        d.due("age(0, 1)", r.age(0, 1), -1);
        d.says("It belongs to an OWNER (that HERD, at first).");
        d.due("beast(0, 2)", r.beast(0, 2), 0);
        d.due("beast(1, 2)", r.beast(1, 2), 1);
    }

    private static void showing() {
        d.says("A STROKE on it SHOWS, if what comes of shows (1, if it is not told) by age (its AGE), scars (how many STROKES are on it),"
            + " stroke (its number), born (as told), season (0 at first;");
        HideReader told = Checks.told("herd a strokes 2 9;iron i strokes 4 5;beast b of a born 6;"
            + "shows age = 0 or scars = 2 or stroke = 9 and season > 1 or born = 5;");
        d.due("by scars", told.beast(0, 1), Checks.bits(2, 9));
        told.burn(0, 0, 0);
        d.due("by age", told.beast(0, 1), Checks.bits(4, 5));
        told.season();
        d.due("by nothing", told.beast(0, 1), 0);
        told.season();
        d.due("by stroke and season", told.beast(0, 1), Checks.bits(9));
        HideReader born = Checks.told("herd a strokes 2;beast b of a born 5;beast c of a born 4;shows born = 5;");
        born.season();
        d.due("born as told", born.beast(0, 1), 4);
        d.due("another born", born.beast(1, 1), 0);
        d.due("not told", Checks.told(BEASTS).beast(1, 1), 3);
        d.says("ints, wrapping; / cut, % its rest, both by 0: 0;");
        holds("9999 * 9999 * 9999 < 0");
        // 2147483647, and what lies one above it and one below its opposite.
        holds("9999 * 9999 * 21 + 9999 * 4790 + 8416 > 0");
        holds("9999 * 9999 * 21 + 9999 * 4790 + 8416 + 1 < 0");
        holds("0 - (9999 * 9999 * 21 + 9999 * 4790 + 8416) - 2 > 0");
        holds("(0 - 7) / 2 = 0 - 3");
        holds("(0 - 7) % 2 = 0 - 1");
        holds("7 / (0 - 2) = 0 - 3");
        holds("7 / 0 + 7 % 0 = 0");
        d.says("relations, and, or, not are 1 or 0, of what is not 0) is not 0.");
        holds("(3 < 4) + (4 > 3) + (4 = 4) = 3");
        holds("(3 > 4) + (4 < 3) + (4 = 3) = 0");
        holds("(5 and 6) + (0 or 7) + (not 0) = 3");
        holds("(5 and 0) + (0 or 0) + (not 8) = 0");
        holds("((0 - 5) and (0 - 2)) + (0 or 0 - 9) + (not (0 - 1)) = 2");
        holds("0 - 5");
        holds("2");
        fails("0");
    }

    private static void seasons() {
        d.says("ACTS: a SEASON: each AGE is 1 more (999 at most), the season goes up by 1;");
        HideReader r = Checks.told("herd a strokes 0 1;iron i strokes 2;beast b of a born 99;");
        r.burn(0, 0, 0);
        for (int i = 1; i <= 3; i++) {
            r.season();
            d.due("the season", r.about(4), i);
            d.due("an old stroke", r.age(0, 0), 99 + i);
            d.due("a young stroke", r.age(0, 2), i);
        }
        // Beyond 512 calls nothing is promised, but this bound lies there.
        for (int i = 4; i <= 905; i++) {
            r.season();
        }
        d.due("an old stroke", r.age(0, 0), 999);
        d.due("a young stroke", r.age(0, 2), 905);
        d.says("then, BEAST by BEAST, the SEED (draw, at first) becomes its 137-fold and 71 more, modulo 1,000,");
        HideReader seed = Checks.told(BEASTS + "draw 10;");
        d.due("draw", seed.about(5), 10);
        seed.season();
        // 10, 1441, 441 * 137 + 71 = 60488.
        d.due("behind two beasts", seed.about(5), 488);
        seed.season();
        // 488 * 137 + 71 = 66927, 927 * 137 + 71 = 127070.
        d.due("behind four", seed.about(5), 70);
        d.says("and if its rest by 100 is less than night tells, the STROKE whose number is the SEED by 12 (its rest) is burned in, if it is not on the HIDE.");
        // The first beast's SEED is 441 (41, stroke 9), the second one's 488 (88, stroke 8).
        d.due("night 41", Checks.told(BEASTS + "draw 10;night 41;").season(), 0);
        HideReader first = Checks.told(BEASTS + "draw 10;night 42;");
        d.due("night 42", first.season(), 1);
        d.due("hide of the first", first.beast(0, 0), Checks.bits(0, 9));
        d.due("hide of the second", first.beast(1, 0), 3);
        d.due("age of what came", first.age(0, 9), 0);
        d.due("age of what was there", first.age(0, 0), 4);
        d.due("night 89", Checks.told(BEASTS + "draw 10;night 89;").season(), 3);
        HideReader on = Checks.told("herd a strokes 9;beast b of a born 5;draw 10;night 42;");
        d.due("on the hide already", on.season(), 1);
        d.due("its hide", on.beast(0, 0), 1 << 9);
        d.due("its age", on.age(0, 9), 6);
    }

    private static void otherActs() {
        d.says("A BEAST is BURNED by an IRON in a PLACEMENT: all its STROKES are on the HIDE, those that were not have AGE 0.");
        HideReader r = Checks.told("turns 4;herd a strokes 0 8;herd b strokes 1;iron i strokes 0 6;beast x of a born 4;beast y of a;");
        d.due("burn(0, 0, 1)", r.burn(0, 0, 1), 1);
        d.due("hide", r.beast(0, 0), Checks.bits(0, 1, 8));
        d.due("age of what came", r.age(0, 1), 0);
        d.due("age of what was there", r.age(0, 8), 4);
        d.due("hide of the other", r.beast(1, 0), Checks.bits(0, 8));
        d.says("It is sold to a HERD.");
        d.due("sell(0, 1)", r.sell(0, 1), 0);
        d.due("owner", r.beast(0, 2), 1);
        d.due("hide", r.beast(0, 0), Checks.bits(0, 1, 8));
        d.due("owner of the other", r.beast(1, 2), 0);
        d.says("Its HIDE is CLEANED (the brand of the HERD told at first, AGE 0 all).");
        d.due("clean(0)", r.clean(0), 1);
        d.due("hide", r.beast(0, 0), Checks.bits(0, 8));
        d.due("ages", r.oldest(0), 0);
        d.due("owner", r.beast(0, 2), 1);
    }

    private static void undoing() {
        d.says("UNDO takes back the latest ACT that was not, REDO does that again which was taken back last (till another ACT);");
        HideReader r = Checks.told(BEASTS);
        r.burn(0, 0, 0);
        r.sell(0, 2);
        r.season();
        r.clean(0);
        d.due("undo the cleaning", r.undo(), true);
        d.due("hide", r.beast(0, 0), 3);
        d.due("undo the season", r.undo(), true);
        d.due("season", r.about(4), 0);
        d.due("owner", r.beast(0, 2), 2);
        d.due("undo the sale", r.undo(), true);
        d.due("owner", r.beast(0, 2), 0);
        d.due("redo the sale", r.redo(), true);
        d.due("owner", r.beast(0, 2), 2);
        d.due("season", r.about(4), 0);
        d.due("redo the season", r.redo(), true);
        d.due("season", r.about(4), 1);
        r.undo();
        r.undo();
        r.sell(0, 3);
        d.due("redo behind another act", r.redo(), false);
        d.due("owner", r.beast(0, 2), 3);
        r.season();
        r.burn(1, 1, 0);
        d.due("undo that", r.undo(), true);
        d.due("redo that", r.redo(), true);
        d.due("hide", r.beast(1, 0), 131);
        d.says("40 at most are kept, the oldest go.");
        for (int i = 0; i < 50; i++) {
            r.season();
        }
        d.due("acts", r.about(6), 40);
        for (int i = 0; i < 40; i++) {
            d.due("undo", r.undo(), true);
        }
        d.due("undo", r.undo(), false);
        d.due("season", r.about(4), 11);
    }

    private static void making() {
        d.says("(By what is now; nothing is done.)");
        HideReader now = Checks.told(BEASTS);
        d.due("tempt at first", now.tempt(0, 0), 1);
        now.burn(0, 0, 0);
        d.due("tempt behind a burning", now.tempt(0, 0), 2);
        now.forge(0, 2);
        now.origins(0);
        now.claim(2);
        now.raid(1, 2);
        d.due("hide", now.beast(0, 0), 3);
        d.due("owner", now.beast(0, 2), 0);
        d.due("acts", now.about(6), 1);
        d.says("MAKE a MARK into another one: by BURNING with IRONS in PLACEMENTS, as few as can be, so that it is ONE with it.");
        HideReader r = Checks.told(BOOK + "iron l strokes 1 7;");
        d.due("make(1, 1)", r.make(1, 1), 0);
        d.due("make(1, 3)", r.make(1, 3), 1);
        d.due("by the iron of both", r.make(1, 131), 1);
        d.due("make(1, 179)", r.make(1, 179), 2);
        d.due("irons that lie one over another", Checks.told("iron i strokes 0 1;iron j strokes 1 2;").make(0, 7), 2);
        d.due("an iron over what is there", Checks.told("iron i strokes 0 1;").make(2, 3), 1);
        d.due("no stroke 4 alone", r.make(1, 17), -1);
        d.due("nothing goes", r.make(3, 1), -1);
        // The iron can lie on the strokes 0, 8, 5 and 9; 5 and 9 lie as 0 and 8 do, half a turn round.
        HideReader turned = Checks.told("turns 4;iron i strokes 0;");
        d.due("turned", turned.make(1, 1 << 8 | 1 << 0), 1);
        d.due("turned", turned.make(1, 1 << 5 | 1 << 9), 1);
        d.due("turned", turned.make(1, 1 << 5 | 1 << 10), -1);
        d.says("CHAIN: the most HERDS of whose brands each is UNDER the next one, no two ONE.");
        d.due("chain()", Checks.told(BOOK).chain(), 3);
        d.due("chain() of like ones", Checks.told("herd a strokes 0;herd b strokes 0;herd c strokes 1;").chain(), 1);
        d.due("chain() of none", Checks.told("").chain(), 0);
        d.due("chain() turned", Checks.told("turns 4;herd a strokes 0 6;herd b strokes 9;herd c strokes 0 6 4;").chain(), 3);
        d.says("FRESH: the MARK of the fewest STROKES (1 at least) that is neither UNDER the brand of a HERD nor a brand UNDER it; of like ones the least as bits.");
        d.due("fresh()", Checks.told(BOOK).fresh(), 4);
        d.due("fresh() of none", Checks.told("").fresh(), 1);
        // 65 (0 and 6) would do, too, but stroke 11 is on no brand, and is one stroke alone.
        d.due("fresh() of fewer strokes", Checks.told("herd a strokes 0 1 2 3 4 5;herd b strokes 6 7 8;herd c strokes 9 10;").fresh(), 2048);
        d.due("fresh() not over a brand", Checks.told("herd a strokes 0 1 2 3 4;herd b strokes 5;herd c strokes 6 7 8 9 10 11;").fresh(), 65);
        d.due("fresh() by two", Checks.told("herd a strokes 0 1 2 3 4 5;herd b strokes 6 7 8 9 10 11;").fresh(), 65);
        d.due("fresh() of the full brand", Checks.told("herd a strokes 0 1 2 3 4 5 6 7 8 9 10 11;").fresh(), -1);
        // All that is under or over one stroke at a corner: left are the inner strokes 2, 3, 7 and 10.
        d.due("fresh() turned", Checks.told("turns 4;mirror;herd a strokes 0;").fresh(), 4);
    }

    private static void herdsAndHides() {
        HideReader r = Checks.told(BEASTS + "beast z of c;");
        d.says("ORIGINS of a BEAST: HERDS whose brand can be MADE (by 4 burnings at most) into its HIDE.");
        d.due("origins(0)", r.origins(0), 1);
        d.due("origins(1)", r.origins(1), 3);
        d.due("origins(2)", r.origins(2), 7);
        String five = "herd a strokes 0;herd b strokes 0 1 2 3 4;herd c strokes 0 1 2 3 4 5;iron i strokes 1;iron j strokes 2;iron k strokes 3;iron l strokes 4;"
            + "iron m strokes 5;beast x of b;beast y of c;";
        d.due("by four", Checks.told(five).origins(0), 3);
        d.due("not by five", Checks.told(five).origins(1), 6);
        d.says("READ: HERDS whose brand is ONE with what SHOWS of it.");
        HideReader shows = Checks.told("turns 4;herd a strokes 0;herd b strokes 0 4;herd c strokes 9;beast x of b;shows stroke > 3;");
        d.due("read(0)", shows.read(0), 0);
        shows = Checks.told("turns 4;herd a strokes 0;herd b strokes 0 5;herd c strokes 9;beast x of b;shows stroke > 3;");
        d.due("read(0)", shows.read(0), 5);
        d.says("CLAIM of a HERD: BEASTS that do not belong to it, whose HIDE can be MADE into its brand (by 4 at most; by 0, too).");
        d.due("claim(2)", r.claim(2), 3);
        d.due("claim(1)", r.claim(1), 1);
        d.due("claim(0)", r.claim(0), 0);
        r.sell(1, 0);
        d.due("claim(1) by 0", r.claim(1), 3);
        d.due("claim(0) of its own", r.claim(0), 0);
    }

    private static void safety() {
        d.says("SAFE is a HERD whose brand can't be MADE into that of another one that is not ONE with it (by 4 at most).");
        d.due("safe()", Checks.told(BOOK).safe(), 12);
        d.due("safe() of like ones", Checks.told("herd a strokes 0;herd b strokes 0;iron i strokes 0;").safe(), 3);
        d.due("safe() from five", Checks.told("herd a strokes 0;herd b strokes 0 1 2 3 4 5;iron i strokes 1;iron j strokes 2;iron k strokes 3;iron l strokes 4;iron m strokes 5;").safe(), 3);
        d.says("KING: the HERD into whose brand most brands of other HERDS can be MADE (by 4 at most); of like ones the first.");
        d.due("king(0)", Checks.told(BOOK).king(0), 2);
        d.due("king(1)", Checks.told(BOOK).king(1), 2);
        d.due("of like ones", Checks.told("herd a strokes 0;herd b strokes 1;herd c strokes 1;herd d strokes 0;").king(0), 0);
        d.due("by none", Checks.told("herd a strokes 0;herd b strokes 1;").king(1), 0);
        d.due("by 0", Checks.told("herd a strokes 0;herd b strokes 1;herd c strokes 1;").king(0), 1);
        d.due("by 0", Checks.told("herd a strokes 0;herd b strokes 1;herd c strokes 1;").king(1), 1);
        d.says("TELLS: the STROKE that nearest half of all BEASTS have on their HIDES"
            + " (twice how many have it less how many there are, without its sign, is least); of like ones the least.");
        // Of three: stroke 0 on two, 1 on one, so they are as near.
        HideReader r = Checks.told(BEASTS + "beast z of d;");
        d.due("tells()", r.tells(), 0);
        r.burn(2, 0, 0);
        r.burn(0, 0, 0);
        d.due("stroke 1 on all, 4 on one", r.tells(), 0);
        d.due("of four", Checks.told("herd a strokes 0 1 2;herd b strokes 0 1 3;herd c strokes 0 4;beast x of a;beast y of a;beast z of b;beast w of c;").tells(), 2);
    }

    private static void choosing() {
        d.says("RAID of two HERDS: each chooses a BEAST; it gets 10, less the burnings by which its HIDE is MADE into its brand, or nothing,"
            + " if it can't be by 4 at most, or both choose one;");
        HideReader r = Checks.told(BEASTS + "beast z of d;");
        // By b: x 9, y 10, z nothing; by c: x 8, y 9, z nothing.
        d.due("raid(1, 2)", r.raid(1, 2), 2);
        d.lies(r, 0, 1);
        // By d: z 10 alone; x and y are worth nothing to it, but to b one of them is.
        d.due("raid(1, 3)", r.raid(1, 3), 1);
        d.lies(r, 1, 2);
        r.burn(0, 0, 0);
        r.burn(0, 2, 0);
        // To b and c only y is worth something now: all twos of BEASTS with y among them are rests, that of y and y, too.
        d.due("raid(1, 2)", r.raid(1, 2), 5);
        d.says("at RESTS neither, the other one's staying so, would get more by another BEAST.");
        HideReader nothing = Checks.told("herd a strokes 0;herd b strokes 1;herd c strokes 2;beast x of c;beast y of c;");
        d.due("all are rests", nothing.raid(0, 1), 4);
        HideReader one = Checks.told("herd a strokes 0;herd b strokes 1;beast x of a;");
        d.due("one beast", one.raid(0, 1), 1);
        HideReader like = Checks.told("herd a strokes 0;herd b strokes 0;beast x of a;beast y of a;beast z of a;");
        d.due("three like beasts", like.raid(0, 1), 6);
        d.lies(like, 0, 1);
        d.says("CLOSED is a book of HERDS, if no brand is UNDER that of another one.");
        d.due("closed()", Checks.told(BOOK).closed(), 0);
        d.due("unlike", Checks.told("herd a strokes 0;herd b strokes 1;").closed(), 1);
        d.due("turned", Checks.told("turns 4;herd a strokes 0;herd b strokes 9;").closed(), 0);
        d.due("one herd", Checks.told("herd a strokes 0;").closed(), 1);
        d.says("ODDS: that a BEAST is not burned in n nights, whatever the SEED is.");
        for (int draw : new int[] {0, 10, 999}) {
            HideReader odds = Checks.told(BEASTS + "night 60;draw " + draw + ";");
            for (int season = 0; season < 3; season++) {
                d.due("odds(0, 0)", odds.odds(0, 0), 1);
                d.due("odds(0, 1)", odds.odds(0, 1), 1);
                d.due("odds(1, 0)", odds.odds(1, 0), 2);
                d.due("odds(1, 1)", odds.odds(1, 1), 5);
                d.due("odds(3, 0)", odds.odds(3, 0), 8);
                d.due("odds(3, 1)", odds.odds(3, 1), 125);
                odds.season();
            }
        }
    }

    private static void seen() {
        d.says("SEEN, 30 at most, is TOLD at a TIME (0 at first, goes on), UNTOLD at a later one or the same,");
        HideReader r = Checks.told(BEASTS);
        d.due("TIME", r.about(9), 0);
        d.due("later(5)", r.later(5), 5);
        d.due("later(6)", r.later(6), 11);
        for (int i = 0; i < 30; i++) {
            d.due("seen", r.seen(1, i % 12, true), i);
        }
        d.due("one more", r.seen(1, 0, true), -1);
        d.due("untell at the same", r.untell(0), true);
        r.later(1);
        d.due("untell at a later one", r.untell(1), true);
        d.says("of the first BEAST (its HIDE as at first), BURNED by two IRONS one behind the other, each in some PLACEMENT, which is not known:");
        HideReader first = Checks.told(BEASTS);
        first.burn(0, 2, 0);
        first.sell(0, 1);
        d.due("rows", first.rows(0), 9);
        first.seen(1, 4, false);
        d.due("rows by the hide as at first", first.rows(0), 6);
        first.seen(2, 1, false);
        // The second beast has stroke 1; the first has not, so j and then j or k are left.
        d.due("rows of the first beast", first.rows(0), 2);
        HideReader home = Checks.told("herd a strokes 0;herd b strokes 1;iron i strokes 2;beast x of b;beast y of a;");
        home.seen(1, 0, true);
        d.due("its HIDE is the brand of its HERD", home.rows(0), 0);
        d.due("in some placement", Checks.told("turns 4;mirror;herd a strokes 2;iron i strokes 0;iron j strokes 0 6;beast x of a;").rows(0), 256);
        d.says("that behind the first, the second one a STROKE was on it, or was not.");
        HideReader both = Checks.told(BEASTS);
        both.seen(1, 7, true);
        d.due("j first", both.rows(0), 3);
        both.seen(2, 7, true);
        d.due("it stays", both.rows(0), 3);
        both.seen(2, 5, false);
        d.due("k not second", both.rows(0), 2);
        both.seen(2, 0, false);
        d.due("the brand stays", both.rows(0), 0);
    }

    private static void knownAt() {
        d.says("As known at k that counts that was TOLD at k or before, not UNTOLD at k or before.");
        HideReader r = Checks.told(BEASTS);
        r.later(10);
        r.seen(1, 7, true);
        r.later(10);
        r.untell(0);
        int[][] due = {{9, 9}, {10, 3}, {19, 3}, {20, 9}, {21, 9}, {-5, 9}};
        for (int[] k : due) {
            d.due("rows(" + k[0] + ")", r.rows(k[0]), k[1]);
        }
        d.says("ROWS: IRON, PLACEMENT, IRON, PLACEMENT by which all that counts is so.");
        HideReader turned = Checks.told("turns 2;herd a strokes 2;iron i strokes 0;iron j strokes 7;beast x of a;");
        d.due("rows at first", turned.rows(0), 16);
        turned.seen(1, 0, true);
        d.due("i as it is, then anything", turned.rows(0), 4);
        turned.seen(2, 5, true);
        d.due("then i half a turn round", turned.rows(0), 1);
        d.says("SURE of a burning (1, 2): the IRON, if it is the same in all.");
        HideReader sure = Checks.told(BEASTS);
        sure.seen(2, 7, true);
        sure.seen(1, 7, false);
        d.due("sure(2, 0)", sure.sure(2, 0), 1);
        d.due("sure(1, 0)", sure.sure(1, 0), -2);
        sure.seen(1, 1, false);
        d.due("sure(1, 0)", sure.sure(1, 0), 2);
        d.says("ASK: the burning of which to know the IRON would leave the fewest of these at the most; of like ones the first.");
        HideReader ask = Checks.told(BEASTS);
        d.due("of like ones", ask.ask(0, 0), 1);
        d.due("left", ask.ask(1, 0), 3);
        ask.seen(1, 7, true);
        // Left is j, then any: the first leaves all 3, the second 1.
        d.due("the second", ask.ask(0, 0), 2);
        d.due("left", ask.ask(1, 0), 1);
        d.says("The constants: `NONE = -1`: There is none.");
        d.due("NONE", HideReader.NONE, -1);
    }
}
