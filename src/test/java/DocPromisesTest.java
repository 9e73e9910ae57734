import java.io.IOException;

/** The promises 1 to 55 in their order: each sentence is quoted, and answered for by the calls behind it. */
public final class DocPromisesTest {
    private static final Checks CHECKS = new Checks();
    private static final int[] WRONG = {Integer.MIN_VALUE, -1, 8, 4096, Integer.MAX_VALUE};
    // Brands 1, 3, 131, 16; irons 2, 128, 48; hides 1 and 3. Each is placed only as it is.
    private static final String TOLD = "herd a strokes 0;herd b strokes 0 1;herd c strokes 0 1 7;herd d strokes 4;"
        + "iron i strokes 1;iron j strokes 7;iron k strokes 4 5;beast x of a born 3;beast y of b;";
    private static Quotes d;

    public static void main(String[] args) throws IOException {
        d = new Quotes(CHECKS, "## Promise 1:", "## Not promised");
        newObject();
        feedAndEnd();
        valley();
        fault();
        told();
        marks();
        season();
        burnSellClean();
        undoAndRedo();
        makeAndForge();
        chain();
        order();
        herdsOfAHide();
        kingAndTempt();
        irons();
        showing();
        all();
        raid();
        brands();
        agesAndLaws();
        odds();
        lies();
        seen();
        time();
        rows();
        boxes();
        about();
        d.close();
        CHECKS.close("DocPromisesTest");
    }

    private static void newObject() {
        d.says("`HideReader()`: An empty VALLEY (turns 1).");
        HideReader r = new HideReader();
        d.due("HERDS", r.about(0), 0);
        d.due("IRONS", r.about(1), 0);
        d.due("BEASTS", r.about(2), 0);
        d.due("PLACEMENTS", r.about(3), 1);
        d.due("turns", r.about(14), 1);
        d.due("bytes", r.about(10), 0);
        d.due("another object knows nothing of the first", Checks.told(TOLD).about(0) + new HideReader().about(0), 4);
    }

    private static void feedAndEnd() {
        d.says("`int feed(int a, int b, int c, int d, int e)`: Twenty bytes come behind those on the TAPE, of each number the highest first: how many there are;");
        HideReader r = new HideReader();
        d.due("\"herd a strokes 0 11;\"", r.feed(0x68657264, 0x20612073, 0x74726f6b, 0x65732030, 0x2031313b), 20);
        d.due("\"mirror;turns 4;\"", r.feed(0x6d697272, 0x6f723b74, 0x75726e73, 0x20343b20, 0x20202020), 40);
        d.due("valley()", r.valley(), 1);
        d.due("brand(0)", r.brand(0), 2049);
        d.due("about(3)", r.about(3), 8);
        d.says("NONE, and nothing comes, if there would be more than 1,600.");
        for (int i = 0; i < 80; i++) {
            r.feed(0x20202020, 0x20202020, 0x20202020, 0x20202020, 0x20202020);
        }
        d.due("feed", r.feed(0, 0, 0, 0, 0), -1);
        d.due("bytes", r.about(10), 1600);
        r.end(1581);
        d.due("feed for 1,601", r.feed(0, 0, 0, 0, 0), -1);
        d.due("bytes", r.about(10), 1581);
        r.end(1580);
        d.due("feed for 1,600", r.feed(0x20202020, 0x20202020, 0x20202020, 0x20202020, 0x20202020), 1600);
        d.due("nothing else came", r.valley(), 1 - 1);
        d.says("`int end(int n)`: The TAPE has its first n bytes: n;");
        Checks.feed(r, "mirror;turns 3;");
        d.due("end(7)", r.end(7), 7);
        d.due("bytes", r.about(10), 7);
        d.due("valley()", r.valley(), 0);
        d.due("about(3)", r.about(3), 2);
        d.due("end(0)", r.end(0), 0);
        d.says("NONE, doing nothing, if it has not so many, or n is below 0.");
        Checks.feed(r, "mirror;");
        d.due("end(8)", r.end(8), -1);
        d.due("end(-1)", r.end(-1), -1);
        d.due("bytes", r.about(10), 7);
        d.due("end(7)", r.end(7), 7);
    }

    private static void valley() {
        d.says("`int valley()`: The TAPE (empty then) is the VALLEY (all as told, season 0, no ACTS are kept, nothing is SEEN, nothing lies there, BOXES are empty then; the TIME stays):"
            + " how many HERDS;");
        HideReader r = Checks.told(TOLD + "draw 5;night 40;mirror;shows 0;");
        r.season();
        r.season();
        r.undo();
        r.seen(1, 2, true);
        r.chain();
        r.image(1);
        r.later(9);
        d.due("make(1, 3)", r.make(1, 3), 1);
        Checks.feed(r, "herd z strokes 11;beast q of z born 2;draw 77;");
        d.due("valley()", r.valley(), 1);
        int[] about = {1, 0, 1, 1, 0, 77, 0, 0, 0, 9, 0, 0, 0, 0, 1};
        for (int i = 0; i < about.length; i++) {
            d.due("about(" + i + ")", r.about(i), about[i]);
        }
        d.due("beast(0, 0)", r.beast(0, 0), 2048);
        d.due("beast(0, 1)", r.beast(0, 1), 2048);
        d.due("make(1, 3) without the old irons", r.make(1, 3), -1);
        d.due("age(0, 11)", r.age(0, 11), 2);
        d.due("back(1)", r.back(1), -1);
        d.says("NONE: a FAULT (all stays).");
        r.season();
        r.seen(2, 3, true);
        r.chain();
        r.image(2);
        Checks.feed(r, "herd y strokes 12;");
        d.due("valley()", r.valley(), -1);
        int[] stays = {1, 0, 1, 1, 1, 620, 1, 0, 1, 9, 18, 0, 1, 0, 1};
        for (int i = 0; i < stays.length; i++) {
            d.due("about(" + i + ")", r.about(i), stays[i]);
        }
        d.due("brand(0)", r.brand(0), 2048);
        d.due("back(2)", r.back(2), 1);
    }

    private static void fault() {
        d.says("`int fault(int what)`: Of the latest valley() what 0: its FAULT (0), 1: its place (NONE).");
        HideReader r = new HideReader();
        d.due("fault(0) before any", r.fault(0), 0);
        d.due("fault(1) before any", r.fault(1), -1);
        Checks.feed(r, "mirror; night 101;");
        r.valley();
        d.due("fault(0)", r.fault(0), 4);
        d.due("fault(1)", r.fault(1), 14);
        r.end(13);
        d.due("fault(0) till the next", r.fault(0), 4);
        r.valley();
        d.due("fault(0)", r.fault(0), 2);
        d.due("fault(1)", r.fault(1), 13);
        r.end(0);
        r.valley();
        d.due("fault(0)", r.fault(0), 0);
        d.due("fault(1)", r.fault(1), -1);
        d.says("NONE for another what.");
        d.due("fault(2)", r.fault(2), -1);
        d.due("fault(-1)", r.fault(-1), -1);
    }

    private static void told() {
        HideReader r = Checks.told(TOLD);
        d.says("`int brand(int herd)`: The brand of a HERD, as bits; NONE if there is none such.");
        int[] brands = {1, 3, 131, 16, -1};
        for (int h = 0; h < 5; h++) {
            d.due("brand(" + h + ")", r.brand(h), brands[h]);
        }
        d.due("brand(-1)", r.brand(-1), -1);
        d.says("`int iron(int iron)`: The MARK of an IRON, as bits; NONE if there is none such.");
        int[] irons = {2, 128, 48, -1};
        for (int i = 0; i < 4; i++) {
            d.due("iron(" + i + ")", r.iron(i), irons[i]);
        }
        d.due("iron(-1)", r.iron(-1), -1);
        d.says("`int beast(int beast, int what)`: Of a BEAST what 0: its HIDE, 1: what SHOWS of it, both as bits, 2: its OWNER, 3: the HERD told at first, 4: born, 5: how many STROKES are on it;");
        HideReader b = Checks.told(TOLD + "shows age > 2;");
        b.burn(0, 2, 0);
        b.sell(0, 3);
        int[] due = {49, 1, 3, 0, 3, 3};
        for (int what = 0; what < 6; what++) {
            d.due("beast(0, " + what + ")", b.beast(0, what), due[what]);
        }
        d.says("NONE if there is none such, or for another what.");
        d.due("beast(2, 0)", b.beast(2, 0), -1);
        d.due("beast(-1, 0)", b.beast(-1, 0), -1);
        d.due("beast(0, 6)", b.beast(0, 6), -1);
        d.due("beast(0, -1)", b.beast(0, -1), -1);
        d.says("`int age(int beast, int stroke)`: AGE of a STROKE on a HIDE; NONE if it is not on it, or one can't be.");
        d.due("age(0, 0)", b.age(0, 0), 3);
        d.due("age(0, 4)", b.age(0, 4), 0);
        d.due("age(0, 1)", b.age(0, 1), -1);
        d.due("age(2, 0)", b.age(2, 0), -1);
        d.due("age(-1, 0)", b.age(-1, 0), -1);
        d.due("age(0, 12)", b.age(0, 12), -1);
        d.due("age(0, -1)", b.age(0, -1), -1);
    }

    private static void marks() {
        HideReader r = Checks.told("turns 4;");
        d.says("`int placed(int mark, int placement)`: A PLACEMENT of a MARK (as bits, 0 .. 4095), as bits; NONE if one can't be.");
        d.due("placed(65, 0)", r.placed(65, 0), 65);
        d.due("placed(65, 1)", r.placed(65, 1), 258);
        d.due("placed(65, 2)", r.placed(65, 2), 2080);
        d.due("placed(65, 3)", r.placed(65, 3), 528);
        d.due("placed(65, 4)", r.placed(65, 4), -1);
        d.due("placed(65, -1)", r.placed(65, -1), -1);
        d.due("placed(0, 3)", r.placed(0, 3), 0);
        d.due("placed(4095, 3)", r.placed(4095, 3), 4095);
        d.due("placed(4096, 0)", r.placed(4096, 0), -1);
        d.due("placed(-1, 0)", r.placed(-1, 0), -1);
        d.says("`int under(int mark, int other)`: 1 if a MARK is UNDER another one, else 0; NONE if one can't be.");
        d.due("under(65, 2081)", r.under(65, 2081), 1);
        d.due("under(2081, 65)", r.under(2081, 65), 0);
        d.due("under(0, 0)", r.under(0, 0), 1);
        d.due("under(4096, 1)", r.under(4096, 1), -1);
        d.due("under(1, 4096)", r.under(1, 4096), -1);
        d.due("under(-1, 1)", r.under(-1, 1), -1);
        d.due("under(1, -1)", r.under(1, -1), -1);
    }

    private static void season() {
        d.says("`int season()`: A SEASON: who was burned in the nights, as bits (also where the STROKE was on the HIDE);");
        // The SEED goes 10, 441 (41, stroke 9), 488 (88, stroke 8), 927 (27, stroke 3), 70 (70, stroke 10).
        HideReader r = Checks.told(TOLD + "draw 10;night 71;");
        d.due("season()", r.season(), 1);
        d.due("hide of the first", r.beast(0, 0), 513);
        d.due("season()", r.season(), 3);
        d.due("hide of the first", r.beast(0, 0), 521);
        d.due("hide of the second", r.beast(1, 0), 1027);
        HideReader on = Checks.told("herd a strokes 9 8;beast x of a;beast y of a;draw 10;night 89;");
        d.due("where the strokes were", on.season(), 3);
        d.due("hide", on.beast(0, 0), 768);
        d.says("NONE, doing nothing, behind 999 of them.");
        // Beyond 512 calls nothing is promised, but this bound lies there.
        HideReader old = Checks.told(TOLD);
        for (int i = 0; i < 999; i++) {
            old.season();
        }
        int seed = old.about(5);
        d.due("season()", old.season(), -1);
        d.due("the season", old.about(4), 999);
        d.due("the SEED", old.about(5), seed);
        d.says("(An ACT.)");
        HideReader act = Checks.told(TOLD + "draw 10;");
        act.season();
        d.due("acts", act.about(6), 1);
        d.due("undo", act.undo(), true);
        d.due("the SEED", act.about(5), 10);
    }

    private static void burnSellClean() {
        d.says("`int burn(int beast, int iron, int placement)`: A BEAST is BURNED: how many STROKES came; NONE, doing nothing, if one can't be. (An ACT.)");
        HideReader r = Checks.told(TOLD);
        d.due("burn(0, 2, 0)", r.burn(0, 2, 0), 2);
        d.due("burn(0, 2, 0)", r.burn(0, 2, 0), 0);
        d.due("acts", r.about(6), 2);
        for (int wrong : WRONG) {
            d.due("burn(" + wrong + ", 0, 0)", r.burn(wrong, 0, 0), -1);
            d.due("burn(0, " + wrong + ", 0)", r.burn(0, wrong, 0), -1);
            d.due("burn(0, 0, " + wrong + ")", r.burn(0, 0, wrong), -1);
        }
        d.due("acts", r.about(6), 2);
        d.due("hide", r.beast(0, 0), 49);
        d.says("`int sell(int beast, int herd)`: It is sold: whose it was; NONE, doing nothing, if it belongs to that HERD, or one can't be. (An ACT.)");
        d.due("sell(0, 2)", r.sell(0, 2), 0);
        d.due("sell(0, 3)", r.sell(0, 3), 2);
        d.due("sell(0, 3)", r.sell(0, 3), -1);
        for (int wrong : WRONG) {
            d.due("sell(" + wrong + ", 0)", r.sell(wrong, 0), -1);
            d.due("sell(0, " + wrong + ")", r.sell(0, wrong), -1);
        }
        d.due("acts", r.about(6), 4);
        d.due("owner", r.beast(0, 2), 3);
        r.undo();
        d.due("sell(0, 2)", r.sell(0, 2), -1);
        d.due("it can be redone still", r.redo(), true);
        d.says("`int clean(int beast)`: Its HIDE is CLEANED: how many STROKES went; NONE, doing nothing, if there is none such. (An ACT.)");
        d.due("clean(0)", r.clean(0), 2);
        d.due("hide", r.beast(0, 0), 1);
        d.due("clean(0)", r.clean(0), 0);
        d.due("acts", r.about(6), 6);
        for (int wrong : WRONG) {
            d.due("clean(" + wrong + ")", r.clean(wrong), -1);
        }
        d.due("acts", r.about(6), 6);
    }

    private static void undoAndRedo() {
        HideReader r = Checks.told(TOLD);
        r.burn(0, 0, 0);
        r.burn(0, 1, 0);
        d.says("`boolean undo()`: UNDO: true; false if there is none.");
        d.due("undo()", r.undo(), true);
        d.due("hide", r.beast(0, 0), 3);
        d.due("undo()", r.undo(), true);
        d.due("hide", r.beast(0, 0), 1);
        d.due("undo()", r.undo(), false);
        d.due("hide", r.beast(0, 0), 1);
        d.says("`boolean redo()`: REDO: true; false if there is none.");
        d.due("redo()", r.redo(), true);
        d.due("hide", r.beast(0, 0), 3);
        d.due("redo()", r.redo(), true);
        d.due("hide", r.beast(0, 0), 131);
        d.due("redo()", r.redo(), false);
        d.due("hide", r.beast(0, 0), 131);
    }

    private static void makeAndForge() {
        d.says("`int make(int mark, int other)`: By how few burnings (0 .. 4) a MARK (as bits) can be MADE into another one; NONE if by none of these, or one can't be.");
        HideReader r = Checks.told("turns 4;mirror;iron i strokes 0;");
        // The iron can lie on each outer stroke: 0, 1, 4, 5, 6, 8, 9, 11.
        d.due("by 0", r.make(1, 2), 0);
        d.due("by 4", r.make(0, Checks.bits(0, 1, 4, 5)), 4);
        d.due("by 5", r.make(0, Checks.bits(0, 1, 4, 5, 6)), -1);
        d.due("an inner stroke", r.make(0, 4), -1);
        d.due("less", r.make(3, 1), -1);
        for (int wrong : new int[] {-1, 4096}) {
            d.due("make(" + wrong + ", 1)", r.make(wrong, 1), -1);
            d.due("make(1, " + wrong + ")", r.make(1, wrong), -1);
        }
        d.says("`int forge(int beast, int herd)`: By how few burnings the HIDE of a BEAST can be MADE into the brand of a HERD; NONE likewise.");
        HideReader f = Checks.told(TOLD);
        d.due("forge(0, 2)", f.forge(0, 2), 2);
        d.due("forge(1, 2)", f.forge(1, 2), 1);
        d.due("forge(1, 1)", f.forge(1, 1), 0);
        d.due("forge(1, 0)", f.forge(1, 0), -1);
        d.due("forge(2, 0)", f.forge(2, 0), -1);
        d.due("forge(0, 4)", f.forge(0, 4), -1);
        d.due("forge(-1, 0)", f.forge(-1, 0), -1);
        d.due("forge(0, -1)", f.forge(0, -1), -1);
        f.burn(0, 1, 0);
        d.due("forge(0, 2) behind a burning", f.forge(0, 2), 1);
        d.due("forge(0, 1) behind a burning", f.forge(0, 1), -1);
        f.undo();
        d.says("IRON and PLACEMENT of each lie there then, in order, the first such row (burning by burning: the least IRON, then the least PLACEMENT; behind NONE: nothing).");
        f.forge(0, 2);
        d.lies(f, 0, 0, 1, 0);
        f.forge(1, 1);
        d.lies(f);
        f.chain();
        f.forge(1, 0);
        d.lies(f);
        // The brand of c is to have the strokes 0, 1, 4 and 5: i on 1 (placement 4), on 5 (2) and on 4 (6); k would lie on 1 and 4.
        HideReader t = Checks.told("turns 4;mirror;herd a strokes 0;herd c strokes 0 1 4 5;iron i strokes 0;iron k strokes 1 4;beast x of a;");
        d.due("forge(0, 1)", t.forge(0, 1), 2);
        d.lies(t, 0, 2, 1, 0);
        t.chain();
        t.forge(0, 7);
        d.lies(t);
    }

    private static void chain() {
        d.says("`int chain()`: CHAIN: how many.");
        HideReader r = Checks.told("herd a strokes 0 1 2;herd b strokes 3;herd c strokes 0 1;herd e strokes 0;herd f strokes 1;herd g strokes 1 0;");
        d.due("chain()", r.chain(), 3);
        d.says("The first such row lies there then (HERD by HERD, the least number; from the lowest on).");
        d.lies(r, 3, 2, 0);
        HideReader none = Checks.told("");
        none.chain();
        d.lies(none);
    }

    private static void order() {
        HideReader r = Checks.told("herd a strokes 0 1 2;herd b strokes 3;herd c strokes 0 1;herd e strokes 0;herd f strokes 1;herd g strokes 1 0;");
        d.says("`int lowest()`: HERDS whose brand no other brand (that is not ONE with it) is UNDER, as bits.");
        d.due("lowest()", r.lowest(), Checks.bits(1, 3, 4));
        d.due("of like ones", Checks.told("herd a strokes 0;herd b strokes 0;").lowest(), 3);
        d.says("`int highest()`: HERDS whose brand is UNDER no other brand (that is not ONE with it), as bits.");
        d.due("highest()", r.highest(), Checks.bits(0, 1));
        d.due("of like ones", Checks.told("herd a strokes 0;herd b strokes 0;").highest(), 3);
        d.says("`int fresh()`: FRESH, as bits; NONE if there is none.");
        d.due("fresh()", r.fresh(), 16);
        d.due("none", Checks.told("herd a strokes 0 1 2 3 4 5 6 7 8 9 10 11;").fresh(), -1);
    }

    private static void herdsOfAHide() {
        HideReader r = Checks.told(TOLD + "shows age < 3;");
        d.says("`int origins(int beast)`: ORIGINS, as bits; NONE if there is none such.");
        d.due("origins(0)", r.origins(0), 1);
        r.burn(0, 1, 0);
        r.burn(0, 0, 0);
        d.due("origins(0)", r.origins(0), 7);
        d.due("origins(2)", r.origins(2), -1);
        d.due("origins(-1)", r.origins(-1), -1);
        d.says("`int read(int beast)`: READ, as bits; NONE if there is none such.");
        d.due("read(1)", r.read(1), 2);
        d.due("read(0), of 1 and 7", r.read(0), 0);
        d.due("read(2)", r.read(2), -1);
        d.due("read(-1)", r.read(-1), -1);
        d.says("`int claim(int herd)`: CLAIM, as bits; NONE if there is none such.");
        d.due("claim(2)", r.claim(2), 3);
        d.due("claim(3)", r.claim(3), 0);
        d.due("claim(4)", r.claim(4), -1);
        d.due("claim(-1)", r.claim(-1), -1);
        d.says("`int safe()`: SAFE HERDS, as bits.");
        d.due("safe()", r.safe(), 12);
        d.due("safe() of none", new HideReader().safe(), 0);
    }

    private static void kingAndTempt() {
        HideReader r = Checks.told(TOLD);
        d.says("`int king(int what)`: KING what 0: the HERD, 1: how many; NONE without HERDS, or for another what.");
        d.due("king(0)", r.king(0), 2);
        d.due("king(1)", r.king(1), 2);
        d.due("king(2)", r.king(2), -1);
        d.due("king(-1)", r.king(-1), -1);
        HideReader all = Checks.told("herd a strokes 0 1 2 3;herd b strokes 0;herd c strokes 1;herd e strokes 2;iron i strokes 0 1 2 3;");
        d.due("king(0) of all", all.king(0), 0);
        d.due("king(1) of all", all.king(1), 3);
        d.due("without HERDS", new HideReader().king(0), -1);
        d.due("without HERDS", new HideReader().king(1), -1);
        d.says("`int tempt(int beast, int what)`: The HERD, not its OWNER, into whose brand the HIDE of a BEAST can be MADE by the fewest burnings (1 .. 4);"
            + " of like ones the first: what 0: it, 1: how many; NONE if there is none, or one can't be.");
        d.due("tempt(0, 0)", r.tempt(0, 0), 1);
        d.due("tempt(0, 1)", r.tempt(0, 1), 1);
        r.sell(0, 1);
        d.due("not its owner", r.tempt(0, 0), 2);
        d.due("by two", r.tempt(0, 1), 2);
        r.sell(1, 0);
        d.due("by 0 it is no temptation", r.tempt(1, 0), 2);
        String singles = "iron i strokes 1;iron j strokes 2;iron k strokes 3;iron l strokes 4;iron m strokes 5;beast x of a;";
        HideReader four = Checks.told("herd a strokes 0;herd b strokes 0 1 2 3 4;" + singles);
        d.due("by four", four.tempt(0, 0), 1);
        d.due("by four", four.tempt(0, 1), 4);
        d.due("not by five", Checks.told("herd a strokes 0;herd b strokes 0 1 2 3 4 5;" + singles).tempt(0, 0), -1);
        HideReader like = Checks.told("herd a strokes 0;herd b strokes 0 1;herd c strokes 0 2;iron i strokes 2;iron j strokes 1;beast x of a;beast y of b;");
        d.due("of like ones", like.tempt(0, 0), 1);
        d.due("none", like.tempt(1, 0), -1);
        d.due("none", like.tempt(1, 1), -1);
        d.due("tempt(0, 2)", like.tempt(0, 2), -1);
        d.due("tempt(0, -1)", like.tempt(0, -1), -1);
        d.due("tempt(2, 0)", like.tempt(2, 0), -1);
        d.due("tempt(-1, 0)", like.tempt(-1, 0), -1);
    }

    private static void irons() {
        HideReader r = Checks.told(TOLD);
        d.says("`int useful()`: IRONS by one burning with which the brand of some HERD is MADE into that of another one that is not ONE with it, as bits.");
        d.due("useful()", r.useful(), 3);
        d.due("not into ONE", Checks.told("herd a strokes 0;herd b strokes 0;iron i strokes 0;").useful(), 0);
        d.due("not by two", Checks.told("herd a strokes 0;herd b strokes 0 1 2;iron i strokes 1;iron j strokes 2;").useful(), 0);
        d.due("in a placement", Checks.told("turns 2;herd a strokes 0;herd b strokes 0 5;iron i strokes 0;").useful(), 1);
        d.says("`int nearest(int mark, int what)`: The HERD whose brand, in some PLACEMENT, differs from a MARK (as bits) in the fewest STROKES;"
            + " of like ones the first: what 0: it, 1: in how many; NONE without HERDS, or if one can't be.");
        d.due("nearest(130, 0)", r.nearest(130, 0), 2);
        d.due("nearest(130, 1)", r.nearest(130, 1), 1);
        d.due("of like ones", r.nearest(0, 0), 0);
        d.due("of like ones", r.nearest(0, 1), 1);
        HideReader turned = Checks.told("turns 4;herd a strokes 1;herd b strokes 0 8;");
        d.due("in a placement", turned.nearest(528, 0), 0);
        d.due("in a placement", turned.nearest(544, 0), 1);
        d.due("in a placement", turned.nearest(544, 1), 0);
        d.due("nearest(-1, 0)", r.nearest(-1, 0), -1);
        d.due("nearest(4096, 0)", r.nearest(4096, 0), -1);
        d.due("nearest(1, 2)", r.nearest(1, 2), -1);
        d.due("nearest(1, -1)", r.nearest(1, -1), -1);
        d.due("without HERDS", new HideReader().nearest(1, 0), -1);
        d.says("`int shared(int herd, int other)`: The most STROKES that the brand of a HERD, in some PLACEMENT, has in common with that of another one (or its own); NONE if one can't be.");
        d.due("shared(1, 2)", r.shared(1, 2), 2);
        d.due("shared(0, 3)", r.shared(0, 3), 0);
        d.due("shared(2, 2)", r.shared(2, 2), 3);
        d.due("in a placement", Checks.told("turns 4;herd a strokes 0 2;herd b strokes 8 7 5;").shared(0, 1), 2);
        for (int wrong : WRONG) {
            d.due("shared(" + wrong + ", 0)", r.shared(wrong, 0), -1);
            d.due("shared(0, " + wrong + ")", r.shared(0, wrong), -1);
        }
    }

    private static void showing() {
        d.says("`int fades(int beast)`: Behind how many SEASONS (0 .. 60; no nights) nothing of a BEAST SHOWS first; NONE if not in these, or there is none such.");
        HideReader r = Checks.told(TOLD + "shows age < 9 and season < 100;night 100;");
        d.due("fades(0)", r.fades(0), 6);
        d.due("fades(1)", r.fades(1), 9);
        r.burn(0, 0, 0);
        d.due("fades(0)", r.fades(0), 9);
        d.due("fades(2)", r.fades(2), -1);
        d.due("fades(-1)", r.fades(-1), -1);
        d.due("at once", Checks.told(TOLD + "shows 0;").fades(0), 0);
        d.due("behind 60", Checks.told(TOLD + "shows age < 60;").fades(1), 60);
        d.due("not in these", Checks.told(TOLD + "shows age < 61;").fades(1), -1);
        d.due("first", Checks.told(TOLD + "shows not (age = 5 or age = 7);").fades(1), 5);
        d.due("the season, too", Checks.told(TOLD + "shows season < 4;").fades(1), 4);
    }

    private static void all() {
        d.says("`int twins()`: How many twos of HERDS have brands that are ONE.");
        d.due("twins()", Checks.told("turns 4;herd a strokes 0;herd b strokes 8;herd c strokes 1;herd e strokes 5;").twins(), 3);
        d.due("none", Checks.told(TOLD).twins(), 0);
        d.says("`int untouched()`: STROKES that are on no HIDE, as bits.");
        HideReader r = Checks.told(TOLD);
        d.due("untouched()", r.untouched(), 4092);
        r.burn(1, 2, 0);
        d.due("untouched()", r.untouched(), 4044);
        d.due("without BEASTS", new HideReader().untouched(), 4095);
        d.says("`int tells()`: TELLS; NONE without BEASTS.");
        d.due("tells()", r.tells(), 1);
        d.due("without BEASTS", Checks.told("herd a strokes 0;").tells(), -1);
    }

    private static void raid() {
        d.says("`int raid(int herd, int other)`: RAID: how many RESTS; NONE if both are one, there are no BEASTS, or one can't be.");
        HideReader r = Checks.told(TOLD);
        d.due("raid(1, 2)", r.raid(1, 2), 2);
        d.due("raid(0, 2)", r.raid(0, 2), 2);
        d.due("raid(1, 1)", r.raid(1, 1), -1);
        for (int wrong : WRONG) {
            d.due("raid(" + wrong + ", 0)", r.raid(wrong, 0), -1);
            d.due("raid(0, " + wrong + ")", r.raid(0, wrong), -1);
        }
        d.due("no BEASTS", Checks.told("herd a strokes 0;herd b strokes 1;").raid(0, 1), -1);
        d.says("The BEASTS of the first of these lie there then (the first one's, the other one's; of like ones the least numbers; behind 0, NONE: nothing).");
        r.raid(1, 2);
        d.lies(r, 0, 1);
        r.raid(1, 1);
        d.lies(r);
        // For d only z is of use, for b y is better than x.
        HideReader three = Checks.told(TOLD + "beast z of d;");
        d.due("raid(3, 1)", three.raid(3, 1), 1);
        d.lies(three, 2, 1);
    }

    private static void brands() {
        d.says("`int closed()`: 1 if the book is CLOSED, else 0.");
        d.due("closed()", Checks.told(TOLD).closed(), 0);
        d.due("closed()", Checks.told("herd a strokes 0 1;herd b strokes 1 2;").closed(), 1);
        d.due("of like ones", Checks.told("herd a strokes 0;herd b strokes 0;").closed(), 0);
        d.due("of none", new HideReader().closed(), 1);
        HideReader r = Checks.told("turns 4;mirror;");
        d.says("`int faces(int mark)`: How many unlike PLACEMENTS (as MARKS) a MARK (as bits) has; NONE if one can't be.");
        d.due("faces(1)", r.faces(1), 8);
        d.due("faces(65)", r.faces(65), 4);
        d.due("the middle cross", r.faces(Checks.bits(2, 3, 7, 10)), 1);
        d.due("a line through the middle", r.faces(Checks.bits(2, 3)), 2);
        d.due("faces(0)", r.faces(0), 1);
        d.due("as it is", new HideReader().faces(1), 1);
        d.due("faces(-1)", r.faces(-1), -1);
        d.due("faces(4096)", r.faces(4096), -1);
        d.says("`int norm(int mark)`: The least of all PLACEMENTS of a MARK (as bits), as bits; NONE if one can't be.");
        d.due("norm(2048)", r.norm(2048), 1);
        d.due("norm(1024)", r.norm(1024), 4);
        d.due("norm(2080)", r.norm(2080), 65);
        d.due("norm(0)", r.norm(0), 0);
        d.due("norm(4095)", r.norm(4095), 4095);
        d.due("as it is", new HideReader().norm(2048), 2048);
        d.due("norm(-1)", r.norm(-1), -1);
        d.due("norm(4096)", r.norm(4096), -1);
        d.says("`int strays()`: BEASTS whose HIDE is not ONE with the brand of their OWNER, as bits.");
        HideReader s = Checks.told("turns 4;herd a strokes 0;herd b strokes 8;herd c strokes 1;beast x of a;beast y of a;beast z of c;");
        d.due("strays()", s.strays(), 0);
        s.sell(0, 1);
        s.sell(1, 2);
        d.due("strays()", s.strays(), 2);
    }

    private static void agesAndLaws() {
        d.says("`int oldest(int beast)`: The oldest AGE on a HIDE; NONE if nothing is on it, or there is none such.");
        HideReader r = Checks.told(TOLD + "shows age > 4 or season > 1 and stroke = 1;");
        d.due("oldest(0)", r.oldest(0), 3);
        r.burn(0, 0, 0);
        d.due("oldest(0)", r.oldest(0), 3);
        d.due("oldest(1)", r.oldest(1), 0);
        d.due("oldest(2)", r.oldest(2), -1);
        d.due("oldest(-1)", r.oldest(-1), -1);
        d.says("`int will(int n)`: How many STROKES of all HIDES SHOW behind n SEASONS (0 .. 60; no nights); NONE for another n.");
        d.due("will(0)", r.will(0), 0);
        d.due("will(1)", r.will(1), 0);
        d.due("will(2)", r.will(2), 3);
        d.due("will(60)", r.will(60), 4);
        d.due("will(61)", r.will(61), -1);
        d.due("will(-1)", r.will(-1), -1);
        d.due("no nights", Checks.told(TOLD + "night 100;").will(60), 3);
        d.says("`int law(int n)`: How many STROKES of all HIDES would SHOW, if each AGE were n (0 .. 99); NONE for another n.");
        d.due("law(4)", r.law(4), 0);
        d.due("law(5)", r.law(5), 4);
        d.due("law(99)", r.law(99), 4);
        d.due("law(100)", r.law(100), -1);
        d.due("law(-1)", r.law(-1), -1);
        r.season();
        r.season();
        d.due("law(0) in the season of now", r.law(0), 2);
    }

    private static void odds() {
        d.says("`int odds(int n, int part)`: ODDS (n 0 .. 4) the upper part (0), the lower part (1), in lowest terms (0 of 1); NONE if one can't be.");
        HideReader r = Checks.told(TOLD + "night 35;");
        int[][] due = {{1, 1}, {13, 20}, {169, 400}, {2197, 8000}, {28561, 160000}};
        for (int n = 0; n < 5; n++) {
            d.due("odds(" + n + ", 0)", r.odds(n, 0), due[n][0]);
            d.due("odds(" + n + ", 1)", r.odds(n, 1), due[n][1]);
        }
        HideReader always = Checks.told("night 100;");
        d.due("0", always.odds(3, 0), 0);
        d.due("of 1", always.odds(3, 1), 1);
        for (int part = 0; part < 2; part++) {
            d.due("odds(5, " + part + ")", r.odds(5, part), -1);
            d.due("odds(-1, " + part + ")", r.odds(-1, part), -1);
        }
        d.due("odds(1, 2)", r.odds(1, 2), -1);
        d.due("odds(1, -1)", r.odds(1, -1), -1);
    }

    private static void lies() {
        d.says("`int lies(int i)`: The i-th number of what lies there; NONE if there is none such.");
        HideReader r = Checks.told(TOLD);
        d.due("lies(0) of nothing", r.lies(0), -1);
        r.chain();
        d.due("lies(0)", r.lies(0), 0);
        d.due("lies(1)", r.lies(1), 1);
        d.due("lies(2)", r.lies(2), 2);
        d.due("lies(3)", r.lies(3), -1);
        d.due("lies(-1)", r.lies(-1), -1);
        askAll(r);
        doAll(r);
        d.lies(r, 0, 1, 2);
    }

    /** All that only asks, but for what makes a new row lie there. */
    private static void askAll(HideReader r) {
        r.brand(0); r.iron(0); r.beast(0, 1); r.age(0, 0); r.placed(1, 0); r.under(1, 3); r.fault(0); r.make(1, 3);
        r.lowest(); r.highest(); r.fresh(); r.origins(0); r.read(0); r.claim(1); r.safe(); r.king(0); r.tempt(0, 0); r.useful(); r.nearest(5, 0);
        r.shared(0, 1); r.fades(0); r.twins(); r.untouched(); r.tells(); r.closed(); r.faces(5); r.norm(5); r.strays(); r.oldest(0);
        r.will(1); r.law(1); r.odds(1, 0); r.rows(0); r.sure(1, 0); r.ask(0, 0); r.about(12);
    }

    /** All that does something, but for a new VALLEY. */
    private static void doAll(HideReader r) {
        r.season();
        r.burn(0, 0, 0);
        r.sell(0, 1);
        r.clean(0);
        r.undo();
        r.redo();
        r.seen(1, 1, true);
        r.untell(0);
        r.later(1);
        r.image(0);
        r.back(0);
        r.feed(0x3f3f3f3f, 0, 0, 0, 0);
        r.valley();
        r.end(0);
    }

    private static void seen() {
        d.says("`int seen(int burning, int stroke, boolean is)`: A SEEN (a burning 1, 2; a STROKE 0 .. 11): its number; NONE, doing nothing, if one can't be, there are 30, or no BEASTS.");
        HideReader r = Checks.told(TOLD);
        d.due("seen(1, 0, true)", r.seen(1, 0, true), 0);
        d.due("seen(2, 11, false)", r.seen(2, 11, false), 1);
        d.due("seen(0, 0, true)", r.seen(0, 0, true), -1);
        d.due("seen(3, 0, true)", r.seen(3, 0, true), -1);
        d.due("seen(1, -1, true)", r.seen(1, -1, true), -1);
        d.due("seen(1, 12, true)", r.seen(1, 12, true), -1);
        d.due("what is SEEN", r.about(8), 2);
        for (int i = 2; i < 30; i++) {
            d.due("seen", r.seen(1, 0, true), i);
        }
        d.due("seen, there are 30", r.seen(1, 0, true), -1);
        d.due("what is SEEN", r.about(8), 30);
        d.due("no BEASTS", Checks.told("herd a strokes 0;iron i strokes 1;").seen(1, 0, true), -1);
        d.says("`boolean untell(int seen)`: It is UNTOLD: true; false if it is so already, or there is none such.");
        HideReader u = Checks.told(TOLD);
        u.seen(1, 1, true);
        u.seen(1, 2, true);
        d.due("rows(0)", u.rows(0), 0);
        d.due("untell(1)", u.untell(1), true);
        d.due("rows(0)", u.rows(0), 3);
        d.due("untell(1)", u.untell(1), false);
        d.due("untell(2)", u.untell(2), false);
        d.due("untell(-1)", u.untell(-1), false);
        d.due("rows(0)", u.rows(0), 3);
    }

    private static void time() {
        d.says("`int later(int by)`: So much later (0 .. 1000): the TIME; NONE, doing nothing, for another number, or if it would be above 100,000.");
        HideReader r = new HideReader();
        d.due("later(0)", r.later(0), 0);
        d.due("later(1000)", r.later(1000), 1000);
        d.due("later(1001)", r.later(1001), -1);
        d.due("later(-1)", r.later(-1), -1);
        d.due("the TIME", r.about(9), 1000);
        for (int i = 2; i < 100; i++) {
            r.later(1000);
        }
        d.due("later(1)", r.later(1), 99001);
        d.due("later(1000)", r.later(1000), -1);
        d.due("later(999)", r.later(999), 100000);
        d.due("later(1)", r.later(1), -1);
        d.due("the TIME", r.about(9), 100000);
    }

    private static void rows() {
        d.says("`int rows(int k)`: ROWS: how many (0 without BEASTS).");
        HideReader r = Checks.told(TOLD);
        d.due("rows(0)", r.rows(0), 9);
        d.due("without BEASTS", Checks.told("herd a strokes 0;iron i strokes 1;").rows(0), 0);
        d.due("without IRONS", Checks.told("herd a strokes 0;beast x of a;").rows(0), 0);
        r.later(3);
        r.seen(2, 5, true);
        r.later(3);
        r.seen(1, 5, false);
        d.due("rows(2)", r.rows(2), 9);
        d.due("rows(3)", r.rows(3), 5);
        d.due("rows(6)", r.rows(6), 2);
        d.says("`int sure(int burning, int k)`: SURE: the IRON; -2 if it is not the same in all; NONE if there are no ROWS, or there is no such burning.");
        d.due("sure(2, 6)", r.sure(2, 6), 2);
        d.due("sure(2, 3)", r.sure(2, 3), -2);
        d.due("sure(1, 6)", r.sure(1, 6), -2);
        d.due("sure(0, 6)", r.sure(0, 6), -1);
        d.due("sure(3, 6)", r.sure(3, 6), -1);
        d.says("`int ask(int what, int k)`: ASK what 0: the burning, 1: how many are left at the most; NONE if there are no ROWS, or for another what.");
        // At 3 five are left: k and any, or i or j and then k. The first leaves k's 3 at the most, the second k's 3 as well.
        d.due("ask(0, 3)", r.ask(0, 3), 1);
        d.due("ask(1, 3)", r.ask(1, 3), 3);
        d.due("ask(0, 6)", r.ask(0, 6), 1);
        d.due("ask(1, 6)", r.ask(1, 6), 1);
        d.due("ask(2, 6)", r.ask(2, 6), -1);
        d.due("ask(-1, 6)", r.ask(-1, 6), -1);
        r.seen(1, 0, false);
        d.due("no ROWS", r.rows(6), 0);
        d.due("sure(2, 6)", r.sure(2, 6), -1);
        d.due("ask(0, 6)", r.ask(0, 6), -1);
        d.due("ask(1, 6)", r.ask(1, 6), -1);
    }

    private static void boxes() {
        d.says("`int image(int box)`: HIDES, AGES, OWNERS, the season, the SEED are kept in a BOX 0 .. 2: the season; NONE if there is none such.");
        HideReader r = Checks.told(TOLD + "draw 10;");
        d.due("image(0)", r.image(0), 0);
        d.due("image(2)", r.image(2), 0);
        r.season();
        r.burn(0, 0, 0);
        r.sell(0, 3);
        d.due("image(3)", r.image(3), -1);
        d.due("image(-1)", r.image(-1), -1);
        d.due("acts", r.about(6), 3);
        r.undo();
        d.due("image(2) once more", r.image(2), 1);
        d.due("it can be redone still", r.redo(), true);
        d.due("image(2) behind it", r.image(2), 1);
        r.seen(1, 1, true);
        r.chain();
        d.says("`int back(int box)`: All is as it was kept (no ACTS are kept then): the season; NONE, doing nothing, if nothing was.");
        r.season();
        r.undo();
        d.due("back(1)", r.back(1), -1);
        d.due("back(3)", r.back(3), -1);
        d.due("back(-1)", r.back(-1), -1);
        d.due("acts", r.about(6), 3);
        d.due("acts undone", r.about(7), 1);
        d.due("back(0)", r.back(0), 0);
        d.due("hide", r.beast(0, 0), 1);
        d.due("owner", r.beast(0, 2), 0);
        d.due("age", r.age(0, 0), 3);
        d.due("the SEED", r.about(5), 10);
        d.due("acts", r.about(6), 0);
        d.due("acts undone", r.about(7), 0);
        d.due("back(2)", r.back(2), 1);
        d.due("hide", r.beast(0, 0), 3);
        d.due("owner", r.beast(0, 2), 3);
        d.due("ages", r.age(0, 0) * 10 + r.age(0, 1), 40);
        d.due("the SEED", r.about(5), 488);
        d.due("the season", r.about(4), 1);
        d.due("what is SEEN stays", r.rows(0), 3);
        d.lies(r, 0, 1, 2);
        r.clean(0);
        d.due("back(2) again", r.back(2), 1);
        d.due("hide", r.beast(0, 0), 3);
    }

    private static void about() {
        d.says("`int about(int what)`: What 0: HERDS, 1: IRONS, 2: BEASTS, 3: how many PLACEMENTS there are, 4: the season, 5: the SEED, 6: ACTS that can be undone, 7: redone,"
            + " 8: what is SEEN, 9: the TIME, 10: bytes on the TAPE, 11: units, 12: numbers that lie there, 13: night in 100, 14: turns.");
        HideReader r = Checks.told(TOLD + "turns 2;mirror;night 13;draw 10;shows age + (scars) < 100;");
        r.season();
        r.season();
        r.season();
        r.undo();
        for (int i = 0; i < 5; i++) {
            r.seen(1, i, true);
        }
        r.later(21);
        r.untell(3);
        r.chain();
        Checks.feed(r, "mirror;");
        int[] due = {4, 3, 2, 4, 2, 70, 2, 1, 5, 21, 7, 4, 3, 13, 2};
        for (int what = 0; what < due.length; what++) {
            d.due("about(" + what + ")", r.about(what), due[what]);
        }
        d.says("NONE for another what.");
        for (int what : new int[] {Integer.MIN_VALUE, -1, 15, 16, Integer.MAX_VALUE}) {
            d.due("about(" + what + ")", r.about(what), -1);
        }
    }
}
