/** Promises 1 and 6 to 55, each by ordinary inputs, edges and wrong inputs, worked out by hand from the document. */
public final class PromisesTest {
    private static final Checks CHECKS = new Checks();

    // Brands: a = 1 (stroke 0), b = 3 (0 1), c = 7 (0 1 2), d = 48 (4 5), e = 3 (like b); irons: 2 (stroke 1), 12 (2 3), 4 (2).
    private static final String PLAIN = "herd a strokes 0;herd b strokes 0 1;herd c strokes 0 1 2;herd d strokes 4 5;herd e strokes 1 0;"
        + "iron p strokes 1;iron q strokes 2 3;iron r strokes 2;"
        + "beast u of a born 4;beast v of b;beast w of d born 9;";
    // As in the lattice's own picture: all eight placements.
    private static final String TURNED = "turns 4;mirror;herd a strokes 0;herd b strokes 0 6;herd c strokes 0 2 6 7;herd d strokes 0 1 7;"
        + "iron i strokes 0;iron j strokes 0 6;beast x of a born 2;beast y of b;beast z of a;night 30;draw 7;";

    public static void main(String[] args) {
        newObject();
        tellings();
        placements();
        seasons();
        lastSeasons();
        burnings();
        salesAndCleaning();
        undoAndRedo();
        manyActs();
        making();
        forging();
        chains();
        orderOfBrands();
        freshMarks();
        hidesAndHerds();
        safety();
        temptations();
        irons();
        nearness();
        showing();
        strokesOfAll();
        raids();
        odds();
        witnesses();
        knownInTwoTimes();
        asking();
        images();
        newValley();
        wrongNumbers();
        CHECKS.close("PromisesTest");
    }

    private static void due(String what, long got, long want) {
        CHECKS.due(what, got, want);
    }

    private static void lies(HideReader r, String what, int... row) {
        CHECKS.lies(r, what, row);
    }

    private static void newObject() {
        HideReader r = new HideReader();
        int[] about = {0, 0, 0, 1, 0, 0, 0, 0, 0, 0, 0, 0, 0, 0, 1, -1};
        for (int i = 0; i < about.length; i++) {
            due("about(" + i + ") of a new object", r.about(i), about[i]);
        }
        due("about(-1)", r.about(-1), -1);
        due("NONE", HideReader.NONE, -1);
        due("fresh() without herds", r.fresh(), 1);
        due("closed() without herds", r.closed(), 1);
        due("untouched() without beasts", r.untouched(), 4095);
        due("tells() without beasts", r.tells(), -1);
        due("king(0) without herds", r.king(0), -1);
        due("nearest without herds", r.nearest(1, 0), -1);
        due("chain() without herds", r.chain(), 0);
        due("season() without beasts", r.season(), 0);
        due("the season", r.about(4), 1);
        due("the seed stays without beasts", r.about(5), 0);
        due("rows(0) without beasts", r.rows(0), 0);
        due("seen without beasts", r.seen(1, 0, true), -1);
        due("odds(4, 1) without nights", r.odds(4, 1), 1);
    }

    private static void tellings() {
        HideReader r = Checks.told(PLAIN + "night 30;draw 7;shows 1;turns 2;mirror;");
        int[] brands = {1, 3, 7, 48, 3};
        for (int h = 0; h < 5; h++) {
            due("brand", r.brand(h), brands[h]);
        }
        due("iron(0)", r.iron(0), 2);
        due("iron(1)", r.iron(1), 12);
        due("iron(2)", r.iron(2), 4);
        int[] first = {1, 1, 0, 0, 4, 1};
        int[] third = {48, 48, 3, 3, 9, 2};
        for (int what = 0; what < 6; what++) {
            due("beast(0, " + what + ")", r.beast(0, what), first[what]);
            due("beast(2, " + what + ")", r.beast(2, what), third[what]);
        }
        due("age(2, 4)", r.age(2, 4), 9);
        due("age(2, 5)", r.age(2, 5), 9);
        due("age(2, 3), not on it", r.age(2, 3), -1);
        due("age(1, 0), born not told", r.age(1, 0), 0);
        int[] about = {5, 3, 3, 4, 0, 7, 0, 0, 0, 0, 0, 1, 0, 30, 2};
        for (int i = 0; i < about.length; i++) {
            due("about(" + i + ")", r.about(i), about[i]);
        }
        due("the default of draw", Checks.told(PLAIN).about(5), 0);
        due("the default of night", Checks.told(PLAIN).about(13), 0);
        due("the default of turns", Checks.told(PLAIN).about(14), 1);
    }

    private static void placements() {
        HideReader all = Checks.told("turns 4;mirror;");
        // Stroke 2 leads from (0, 1) to (1, 1): round and round it is 7, 3, 10; mirrored it is 3, then 10, 2, 7.
        int[] inner = {4, 128, 8, 1024, 8, 1024, 4, 128};
        int[] outer = {1, 256, 32, 512, 2, 2048, 16, 64};
        for (int p = 0; p < 8; p++) {
            due("placed(4, " + p + ")", all.placed(4, p), inner[p]);
            due("placed(1, " + p + ")", all.placed(1, p), outer[p]);
            due("placed(5, " + p + ")", all.placed(5, p), inner[p] | outer[p]);
            due("placed(4095, " + p + ")", all.placed(4095, p), 4095);
            due("placed(0, " + p + ")", all.placed(0, p), 0);
        }
        due("placed(1, 8)", all.placed(1, 8), -1);
        due("faces(0)", all.faces(0), 1);
        due("faces(4)", all.faces(4), 4);
        due("faces(1)", all.faces(1), 8);
        due("faces(4095)", all.faces(4095), 1);
        due("norm(2048)", all.norm(2048), 1);
        due("norm(1024)", all.norm(1024), 4);
        due("norm(0)", all.norm(0), 0);
        due("norm(4095)", all.norm(4095), 4095);
        due("under(2048, 1)", all.under(2048, 1), 1);
        due("under(2048, 4)", all.under(2048, 4), 0);
        due("under(0, 0)", all.under(0, 0), 1);
        due("under(1, 0)", all.under(1, 0), 0);
        HideReader half = Checks.told("turns 2;mirror;");
        int[] halves = {1, 32, 2, 16, -1};
        for (int p = 0; p < 5; p++) {
            due("turns 2: placed(1, " + p + ")", half.placed(1, p), halves[p]);
        }
        due("turns 2: under(256, 1)", half.under(256, 1), 0);
        due("turns 2: faces(33)", half.faces(33), 2);
        HideReader mirror = Checks.told("mirror;");
        due("mirror: placed(64, 1)", mirror.placed(64, 1), 256);
        due("mirror: placed(64, 2)", mirror.placed(64, 2), -1);
        HideReader quarter = Checks.told("turns 4;");
        due("turns 4: about(3)", quarter.about(3), 4);
        due("turns 4: under(1, 2)", quarter.under(1, 2), 0);
        due("turns 4: placed(64, 1)", quarter.placed(64, 1), 2);
        HideReader same = Checks.told("");
        due("turns 1: placed(64, 1)", same.placed(64, 1), -1);
        due("turns 1: norm(64)", same.norm(64), 64);
        for (HideReader r : new HideReader[] {all, same}) {
            due("placed(-1, 0)", r.placed(-1, 0), -1);
            due("placed(4096, 0)", r.placed(4096, 0), -1);
            due("placed(1, -1)", r.placed(1, -1), -1);
            due("under(-1, 0)", r.under(-1, 0), -1);
            due("under(0, 4096)", r.under(0, 4096), -1);
            due("faces(-1)", r.faces(-1), -1);
            due("faces(4096)", r.faces(4096), -1);
            due("norm(-1)", r.norm(-1), -1);
            due("norm(4096)", r.norm(4096), -1);
        }
    }

    private static void seasons() {
        HideReader r = Checks.told(PLAIN + "night 75;draw 1;");
        // Seeds: 208 (8 by 100, stroke 4), 567 (67, stroke 3), 750 (50, stroke 6).
        due("season()", r.season(), 7);
        due("hide of u", r.beast(0, 0), 1 | 1 << 4);
        due("hide of v", r.beast(1, 0), 3 | 1 << 3);
        due("hide of w", r.beast(2, 0), 48 | 1 << 6);
        due("age of what was there", r.age(0, 0), 5);
        due("age of what came", r.age(0, 4), 0);
        due("oldest", r.oldest(0), 5);
        due("the seed", r.about(5), 750);
        due("the season", r.about(4), 1);
        // Seeds: 821 (21, stroke 5), 548 (48, stroke 8), 147 (47, stroke 3).
        due("season()", r.season(), 7);
        due("hide of w", r.beast(2, 0), 48 | 1 << 6 | 1 << 3);
        due("age of what came a season ago", r.age(0, 4), 1);
        due("ages of one hide", r.age(2, 6), 1);
        HideReader on = Checks.told("herd a strokes 4;beast b of a born 3;night 9;draw 1;");
        due("who was burned where the stroke was", on.season(), 1);
        due("its age goes on", on.age(0, 4), 4);
        due("not burned when the rest is not less", Checks.told("herd a strokes 4;beast b of a;night 8;draw 1;").season(), 0);
        HideReader quiet = Checks.told(PLAIN + "night 0;draw 929;");
        // Seeds: 344, 199, 334.
        due("no nights", quiet.season(), 0);
        due("the seed goes on without nights", quiet.about(5), 334);
        due("untouched by nights", quiet.beast(0, 0), 1);
    }

    /** Beyond 512 calls nothing is promised, but the bounds of a season can be seen only there. */
    private static void lastSeasons() {
        HideReader r = Checks.told("herd a strokes 0;beast b of a born 99;draw 1;");
        for (int i = 0; i < 900; i++) {
            r.season();
        }
        due("age of 999", r.age(0, 0), 999);
        due("will(60) at the oldest", Checks.told("herd a strokes 0;beast b of a born 99;shows age < 160;").will(60), 1);
        r.season();
        due("age of no more", r.age(0, 0), 999);
        for (int i = 901; i < 999; i++) {
            due("season()", r.season(), 0);
        }
        due("the last season", r.about(4), 999);
        int seed = r.about(5);
        due("season() behind 999", r.season(), -1);
        due("nothing was done", r.about(5), seed);
        due("nothing was done", r.about(4), 999);
        CHECKS.due("undo", r.undo(), true);
        due("season() again", r.season(), 0);
    }

    private static void burnings() {
        HideReader r = Checks.told(TURNED);
        due("burn, one stroke on it already", r.burn(0, 1, 0), 1);
        due("hide", r.beast(0, 0), 65);
        due("the old stroke's age", r.age(0, 0), 2);
        due("the new one's age", r.age(0, 6), 0);
        due("burn in a placement", r.burn(0, 0, 2), 1);
        due("hide", r.beast(0, 0), 65 | 32);
        due("burn that brings nothing", r.burn(0, 0, 2), 0);
        due("it is an act all the same", r.about(6), 3);
        int[][] wrong = {{-1, 0, 0}, {3, 0, 0}, {0, -1, 0}, {0, 2, 0}, {0, 0, -1}, {0, 0, 8}};
        for (int[] w : wrong) {
            due("burn of what can't be", r.burn(w[0], w[1], w[2]), -1);
        }
        due("nothing was done", r.about(6), 3);
    }

    private static void salesAndCleaning() {
        HideReader r = Checks.told(TURNED);
        due("sell to its owner", r.sell(0, 0), -1);
        due("sell to no herd", r.sell(0, 4), -1);
        due("sell to no herd", r.sell(0, -1), -1);
        due("sell no beast", r.sell(3, 1), -1);
        due("sell no beast", r.sell(-1, 1), -1);
        due("no acts", r.about(6), 0);
        due("sell", r.sell(0, 3), 0);
        due("owner", r.beast(0, 2), 3);
        due("herd told at first", r.beast(0, 3), 0);
        due("sell again", r.sell(0, 1), 3);
        due("acts", r.about(6), 2);
        r.burn(0, 1, 2);
        due("strokes", r.beast(0, 5), 3);
        due("clean", r.clean(0), 2);
        due("hide", r.beast(0, 0), 1);
        due("age", r.age(0, 0), 0);
        due("the owner stays", r.beast(0, 2), 1);
        due("clean again", r.clean(0), 0);
        due("acts", r.about(6), 5);
        due("clean no beast", r.clean(3), -1);
        due("clean no beast", r.clean(-1), -1);
        due("acts", r.about(6), 5);
    }

    private static void undoAndRedo() {
        HideReader r = Checks.told(TURNED);
        CHECKS.due("undo without acts", r.undo(), false);
        CHECKS.due("redo without acts", r.redo(), false);
        r.burn(0, 1, 0);
        r.season();
        r.sell(0, 2);
        r.clean(0);
        int hide = r.beast(1, 0);
        CHECKS.due("undo the cleaning", r.undo(), true);
        due("hide", r.beast(0, 0) & 65, 65);
        due("age", r.age(0, 0), 3);
        CHECKS.due("undo the sale", r.undo(), true);
        due("owner", r.beast(0, 2), 0);
        CHECKS.due("undo the season", r.undo(), true);
        due("season", r.about(4), 0);
        due("seed", r.about(5), 7);
        due("age", r.age(0, 0), 2);
        due("to undo", r.about(6), 1);
        due("to redo", r.about(7), 3);
        CHECKS.due("redo", r.redo(), true);
        due("season", r.about(4), 1);
        due("hide", r.beast(1, 0), hide);
        CHECKS.due("redo", r.redo(), true);
        CHECKS.due("redo", r.redo(), true);
        due("cleaned", r.age(0, 0), 0);
        CHECKS.due("redo at the end", r.redo(), false);
        r.undo();
        r.undo();
        due("a call that does nothing is no act", r.sell(0, 0), -1);
        due("to redo", r.about(7), 2);
        r.sell(0, 1);
        due("another act ends what can be redone", r.about(7), 0);
        CHECKS.due("redo", r.redo(), false);
        due("to undo", r.about(6), 3);
    }

    private static void manyActs() {
        HideReader r = Checks.told(TURNED);
        for (int i = 0; i < 45; i++) {
            r.season();
        }
        due("acts kept", r.about(6), 40);
        for (int i = 0; i < 40; i++) {
            CHECKS.due("undo", r.undo(), true);
        }
        CHECKS.due("undo what went", r.undo(), false);
        due("season", r.about(4), 5);
        due("to redo", r.about(7), 40);
        for (int i = 0; i < 40; i++) {
            CHECKS.due("redo", r.redo(), true);
        }
        due("season", r.about(4), 45);
        due("acts kept", r.about(6), 40);
        CHECKS.due("redo", r.redo(), false);
    }

    private static void making() {
        HideReader r = Checks.told(PLAIN);
        due("make(1, 1)", r.make(1, 1), 0);
        due("make(0, 0)", r.make(0, 0), 0);
        due("make(1, 3)", r.make(1, 3), 1);
        due("make(1, 7)", r.make(1, 7), 2);
        due("make(1, 15)", r.make(1, 15), 2);
        due("make(1, 11), no stroke 3 by itself", r.make(1, 11), -1);
        due("make(3, 1)", r.make(3, 1), -1);
        due("make(0, 2)", r.make(0, 2), 1);
        HideReader one = Checks.told("iron a strokes 0;iron b strokes 1;iron c strokes 2;iron d strokes 3;iron e strokes 4;");
        due("by four", one.make(0, 15), 4);
        due("not by five", one.make(0, 31), -1);
        due("by four", one.make(16, 31), 4);
        HideReader turned = Checks.told("turns 4;mirror;iron a strokes 0;");
        due("turned: make(0, 2048)", turned.make(0, 2048), 1);
        due("turned: make(1, 2048)", turned.make(1, 2048), 0);
        due("turned: make(1, 4)", turned.make(1, 4), -1);
        due("turned: four of them", turned.make(0, 1 | 2 | 16 | 32), 4);
        due("make(-1, 0)", r.make(-1, 0), -1);
        due("make(0, -1)", r.make(0, -1), -1);
        due("make(4096, 0)", r.make(4096, 0), -1);
        due("make(4096, 4096)", r.make(4096, 4096), -1);
    }

    private static void forging() {
        HideReader r = Checks.told(PLAIN);
        due("forge(0, 2)", r.forge(0, 2), 2);
        lies(r, "forge(0, 2)", 0, 0, 2, 0);
        due("forge(0, 0)", r.forge(0, 0), 0);
        lies(r, "forge(0, 0)");
        r.forge(0, 1);
        lies(r, "forge(0, 1)", 0, 0);
        due("forge(0, 3)", r.forge(0, 3), -1);
        lies(r, "forge(0, 3)");
        int[][] wrong = {{-1, 0}, {3, 0}, {0, -1}, {0, 5}};
        for (int[] w : wrong) {
            r.forge(0, 1);
            due("forge of what can't be", r.forge(w[0], w[1]), -1);
            lies(r, "forge of what can't be");
        }
        HideReader turned = Checks.told("turns 4;mirror;herd a strokes 4;herd b strokes 4 5 11;iron z strokes 0 6;iron i strokes 0;beast x of a;");
        // The corner at (2, 2), strokes 5 and 11, is iron z in placement 2, half a turn; from any end of stroke 4.
        due("turned: forge(0, 1)", turned.forge(0, 1), 1);
        lies(turned, "turned: forge(0, 1)", 0, 2);
        HideReader first = Checks.told("turns 2;herd a strokes 0;herd b strokes 0 1 2;iron i strokes 1;iron j strokes 2;iron k strokes 0 1;beast x of a;");
        due("the least of two irons, in order", first.forge(0, 1), 2);
        lies(first, "the least of two irons", 0, 0, 1, 0);
    }

    private static void chains() {
        HideReader r = Checks.told(PLAIN);
        due("chain()", r.chain(), 3);
        lies(r, "chain()", 0, 1, 2);
        HideReader twins = Checks.told("herd a strokes 0 1 2;herd b strokes 1;herd c strokes 0 1;herd d strokes 0;herd e strokes 1 0;");
        due("chain() from the least lowest one", twins.chain(), 3);
        lies(twins, "chain() from the least lowest one", 1, 2, 0);
        HideReader alone = Checks.told("herd a strokes 0;herd b strokes 1;");
        due("chain() of one", alone.chain(), 1);
        lies(alone, "chain() of one", 0);
        HideReader long8 = Checks.told("herd h strokes 0 1 2 3 4 5 6 7;herd g strokes 0 1 2 3 4 5 6;herd f strokes 0 1 2 3 4 5;herd e strokes 0 1 2 3 4;"
            + "herd d strokes 0 1 2 3;herd c strokes 0 1 2;herd b strokes 0 1;herd a strokes 0;");
        due("chain() of eight", long8.chain(), 8);
        lies(long8, "chain() of eight", 7, 6, 5, 4, 3, 2, 1, 0);
    }

    private static void orderOfBrands() {
        HideReader r = Checks.told(PLAIN);
        due("lowest()", r.lowest(), 1 | 8);
        due("highest()", r.highest(), 4 | 8);
        due("twins()", r.twins(), 1);
        due("closed()", r.closed(), 0);
        HideReader one = Checks.told("turns 4;herd a strokes 0;herd b strokes 8;herd c strokes 5;");
        due("lowest() of ones", one.lowest(), 7);
        due("highest() of ones", one.highest(), 7);
        due("twins() of ones", one.twins(), 3);
        due("closed() of ones", one.closed(), 0);
        HideReader apart = Checks.told("herd a strokes 0;herd b strokes 8;herd c strokes 5 6;");
        due("closed()", apart.closed(), 1);
        due("twins()", apart.twins(), 0);
        due("highest()", apart.highest(), 7);
        HideReader two = Checks.told("herd a strokes 0;herd b strokes 0 1;");
        due("closed(), one under another", two.closed(), 0);
        due("lowest()", two.lowest(), 1);
        due("highest()", two.highest(), 2);
    }

    private static void freshMarks() {
        due("fresh()", Checks.told(PLAIN).fresh(), 8);
        due("fresh() of two strokes", Checks.told("herd a strokes 0 1 2 3 4 5;herd b strokes 6 7 8 9 10 11;").fresh(), 65);
        due("fresh(): none", Checks.told("herd a strokes 0 1 2 3 4 5 6 7 8 9 10 11;").fresh(), -1);
        due("fresh(): turned", Checks.told("turns 4;mirror;herd a strokes 0;").fresh(), 4);
        due("fresh(): neither under nor over", Checks.told("turns 4;mirror;herd a strokes 0;herd b strokes 2;").fresh(), -1);
        due("fresh(): a brand under it", Checks.told("herd a strokes 0;herd b strokes 1 2;herd c strokes 3 4 5 6 7 8 9 10 11;").fresh(), 10);
    }

    private static void hidesAndHerds() {
        HideReader r = Checks.told(PLAIN + "shows age > 3;");
        due("origins(0)", r.origins(0), 1);
        due("origins(1)", r.origins(1), 1 | 2 | 16);
        due("origins(2)", r.origins(2), 8);
        due("origins(3)", r.origins(3), -1);
        due("origins(-1)", r.origins(-1), -1);
        due("read(0)", r.read(0), 1);
        due("read(1), too young", r.read(1), 0);
        due("read(2)", r.read(2), 8);
        due("read(3)", r.read(3), -1);
        due("read(-1)", r.read(-1), -1);
        due("claim(0)", r.claim(0), 0);
        due("claim(1)", r.claim(1), 1);
        due("claim(2)", r.claim(2), 3);
        due("claim(4), by 0 too", r.claim(4), 3);
        due("claim(5)", r.claim(5), -1);
        due("claim(-1)", r.claim(-1), -1);
        due("strays()", r.strays(), 0);
        r.sell(1, 4);
        due("strays(), the brand of a twin", r.strays(), 0);
        r.sell(1, 2);
        due("strays()", r.strays(), 2);
        due("claim(2) of its own", r.claim(2), 1);
        r.burn(0, 0, 0);
        due("read(0) of what shows", r.read(0), 1);
        due("origins(0) of the whole hide", r.origins(0), 1 | 2 | 16);
        for (int i = 0; i < 4; i++) {
            r.season();
        }
        due("read(0) later", r.read(0), 2 | 16);
        HideReader turned = Checks.told("turns 4;mirror;herd a strokes 0;herd b strokes 6 9;iron i strokes 8;beast x of a;");
        due("turned: claim(1)", turned.claim(1), 1);
        turned.burn(0, 0, 5);
        due("turned: hide", turned.beast(0, 0), 3);
        due("turned: read(0)", turned.read(0), 2);
        due("turned: strays()", turned.strays(), 1);
    }

    private static void safety() {
        HideReader r = Checks.told(PLAIN);
        due("safe()", r.safe(), 4 | 8);
        due("king(0)", r.king(0), 2);
        due("king(1)", r.king(1), 3);
        due("king(2)", r.king(2), -1);
        due("king(-1)", r.king(-1), -1);
        HideReader twins = Checks.told("herd a strokes 3;herd b strokes 0 1;herd c strokes 1 0;");
        due("safe() of twins", twins.safe(), 7);
        due("king(0) of twins", twins.king(0), 1);
        due("king(1) of twins", twins.king(1), 1);
        HideReader apart = Checks.told("herd a strokes 3;herd b strokes 0 3;");
        due("king(0), none can be made", apart.king(0), 0);
        due("king(1), none can be made", apart.king(1), 0);
        due("safe(), none can be made", apart.safe(), 3);
    }

    private static void temptations() {
        HideReader r = Checks.told(PLAIN);
        due("tempt(0, 0)", r.tempt(0, 0), 1);
        due("tempt(0, 1)", r.tempt(0, 1), 1);
        due("tempt(1, 0), not the twin by 0", r.tempt(1, 0), 2);
        due("tempt(1, 1)", r.tempt(1, 1), 1);
        due("tempt(2, 0), none", r.tempt(2, 0), -1);
        due("tempt(2, 1), none", r.tempt(2, 1), -1);
        r.sell(0, 1);
        due("tempt(0, 0), not its owner", r.tempt(0, 0), 4);
        r.sell(0, 4);
        due("tempt(0, 0), the first", r.tempt(0, 0), 1);
        due("tempt(0, 2)", r.tempt(0, 2), -1);
        due("tempt(0, -1)", r.tempt(0, -1), -1);
        due("tempt(3, 0)", r.tempt(3, 0), -1);
        due("tempt(-1, 0)", r.tempt(-1, 0), -1);
        HideReader far = Checks.told("herd a strokes 0;herd b strokes 0 1 2;herd c strokes 0 2;iron i strokes 1;iron j strokes 2;beast x of a;");
        due("tempt(0, 0), the fewest", far.tempt(0, 0), 2);
        far.sell(0, 2);
        due("tempt(0, 1), by two", far.tempt(0, 1), 2);
        HideReader most = Checks.told("herd a strokes 0;herd b strokes 0 1 2 3 4;iron i strokes 1;iron j strokes 2;iron k strokes 3;iron l strokes 4;beast x of a;");
        due("tempt(0, 0), by four", most.tempt(0, 0), 1);
        due("tempt(0, 1), by four", most.tempt(0, 1), 4);
        most.forge(0, 1);
        lies(most, "forge by four", 0, 0, 1, 0, 2, 0, 3, 0);
    }

    private static void irons() {
        due("useful()", Checks.told(PLAIN).useful(), 1 | 4);
        due("useful(): none by itself", Checks.told("herd a strokes 0;herd b strokes 0 1 2;iron i strokes 1;iron j strokes 2;iron k strokes 1 2;").useful(), 4);
        due("useful(): not what is there", Checks.told("herd a strokes 0;herd b strokes 1 0;herd c strokes 0 1;iron i strokes 0;").useful(), 0);
        due("useful(): into the first", Checks.told("herd b strokes 0 1;herd a strokes 0;iron i strokes 1;").useful(), 1);
        due("useful(): twins", Checks.told("mirror;herd a strokes 0;herd b strokes 1;iron i strokes 0;").useful(), 0);
        due("useful(): turned", Checks.told("turns 4;herd a strokes 0;herd b strokes 0 5;iron i strokes 2;iron j strokes 8;").useful(), 2);
    }

    private static void nearness() {
        HideReader r = Checks.told(PLAIN);
        due("nearest(3, 0)", r.nearest(3, 0), 1);
        due("nearest(3, 1)", r.nearest(3, 1), 0);
        due("nearest(0, 0)", r.nearest(0, 0), 0);
        due("nearest(0, 1)", r.nearest(0, 1), 1);
        due("nearest(4095, 0)", r.nearest(4095, 0), 2);
        due("nearest(4095, 1)", r.nearest(4095, 1), 9);
        due("nearest(5, 0), of like ones the first", r.nearest(5, 0), 0);
        due("nearest(5, 2)", r.nearest(5, 2), -1);
        due("nearest(5, -1)", r.nearest(5, -1), -1);
        due("nearest(-1, 0)", r.nearest(-1, 0), -1);
        due("nearest(4096, 0)", r.nearest(4096, 0), -1);
        due("shared(0, 2)", r.shared(0, 2), 1);
        due("shared(2, 1)", r.shared(2, 1), 2);
        due("shared(2, 3)", r.shared(2, 3), 0);
        due("shared(2, 2)", r.shared(2, 2), 3);
        due("shared(5, 0)", r.shared(5, 0), -1);
        due("shared(0, 5)", r.shared(0, 5), -1);
        due("shared(-1, 0)", r.shared(-1, 0), -1);
        due("shared(0, -1)", r.shared(0, -1), -1);
        HideReader far = Checks.told("herd a strokes 0;");
        due("nearest(4095, 1), far", far.nearest(4095, 1), 11);
        due("nearest(4094, 0), as far as can be", far.nearest(4094, 0), 0);
        due("nearest(4094, 1), as far as can be", far.nearest(4094, 1), 12);
        HideReader turned = Checks.told("turns 4;herd a strokes 0 2;herd b strokes 5 3 8;");
        due("turned: nearest(40, 0)", turned.nearest(40, 0), 0);
        due("turned: nearest(40, 1)", turned.nearest(40, 1), 0);
        due("turned: shared(0, 1)", turned.shared(0, 1), 2);
    }

    private static HideReader shows(String formula) {
        return Checks.told("herd a strokes 0 5 11;iron i strokes 3;beast b of a born 7;shows " + formula + ";");
    }

    private static void showing() {
        String[] all = {"1", "2", "age", "3 > 2", "2 < 3", "3 = 3", "not 0", "1 and 2", "0 or 3", "age = 7", "born = 7", "scars = 3", "season = 0",
            "7 / 2 = 3", "(0 - 7) / 2 = 0 - 3", "(0 - 7) % 2 = 0 - 1", "7 % 4 = 3", "5 / 0 = 0", "5 % 0 = 0", "2 + 3 * 4 = 14", "(2 + 3) * 4 = 20",
            "9 - 3 - 2 = 4", "not 1 = 2", "1 or 1 and 0", "(7 and 9) = 1", "(0 or 9) = 1", "(not 5) = 0", "(not 0) = 1", "(5 > 3) + 1 = 2", "9999 * 9999 * 9999 < 0",
            "8 / 2 * 3 = 12", "0 - 1", "not not 4", "age + born = 14", "stroke = 0 or stroke = 5 or stroke = 11", "not stroke = 1", "0 and 0 or 1"};
        for (String f : all) {
            due("shows " + f, shows(f).beast(0, 1), 1 | 1 << 5 | 1 << 11);
        }
        String[] nothing = {"0", "3 < 2", "2 < 2", "2 > 2", "3 = 2", "not 2", "1 and 0", "0 or 0", "age - 7", "season", "5 / 0", "5 % 5", "not (1 or 0)",
            "(1 or 1) and 0", "scars < 3", "not 1 or 0"};
        for (String f : nothing) {
            due("shows " + f, shows(f).beast(0, 1), 0);
        }
        due("shows stroke > 4", shows("stroke > 4").beast(0, 1), 1 << 5 | 1 << 11);
        due("shows stroke = 5", shows("stroke = 5").beast(0, 1), 1 << 5);
        due("shows, not told", Checks.told(PLAIN).beast(1, 1), 3);
        HideReader r = shows("age < 10 and scars < 4");
        due("fades(0)", r.fades(0), 3);
        due("will(2)", r.will(2), 3);
        due("will(3)", r.will(3), 0);
        due("law(9)", r.law(9), 3);
        due("law(10)", r.law(10), 0);
        due("will(60)", r.will(60), 0);
        due("will(61)", r.will(61), -1);
        due("will(-1)", r.will(-1), -1);
        due("law(-1)", r.law(-1), -1);
        due("law(100)", r.law(100), -1);
        due("fades(1)", r.fades(1), -1);
        due("fades(-1)", r.fades(-1), -1);
        due("nothing was done", r.about(6), 0);
        r.burn(0, 0, 0);
        due("four scars", r.beast(0, 1), 0);
        due("fades at once", r.fades(0), 0);
        due("fades in the 60th", shows("season < 60").fades(0), 60);
        due("fades not in these", shows("season < 61").fades(0), -1);
        due("law(99)", shows("age = 99").law(99), 3);
        HideReader s = shows("season > 2 and age = season + born");
        due("will(2) by the season", s.will(2), 0);
        due("will(3) by the season", s.will(3), 3);
        due("law(9) by the season of now", s.law(9), 0);
        s.season();
        s.season();
        s.season();
        due("law(10) by the season of now", s.law(10), 3);
        due("will(1)", s.will(1), 3);
    }

    private static void strokesOfAll() {
        HideReader r = Checks.told(PLAIN);
        due("untouched()", r.untouched(), 4095 & ~(1 | 2 | 48));
        // Stroke 0 is on two of three, 1 on one, 4 on one: all as near to half.
        due("tells()", r.tells(), 0);
        due("will(0) of all", r.will(0), 5);
        due("law(0) of all", r.law(0), 5);
        due("tells() of two", Checks.told("herd a strokes 0 1;herd b strokes 0 2;beast x of a;beast y of b;").tells(), 1);
        due("tells(): all or none are alike far", Checks.told("herd a strokes 7;beast x of a;").tells(), 0);
        due("oldest(2)", r.oldest(2), 9);
        due("oldest(1)", r.oldest(1), 0);
        due("oldest(3)", r.oldest(3), -1);
        due("oldest(-1)", r.oldest(-1), -1);
        r.burn(2, 1, 0);
        due("untouched()", r.untouched(), 4095 & ~63);
        due("oldest(2)", r.oldest(2), 9);
    }

    private static void raids() {
        HideReader r = Checks.told(PLAIN);
        // For c: u by two (8), v by one (9), w not. For b: u by one (9), v by none (10).
        due("raid(2, 1)", r.raid(2, 1), 2);
        lies(r, "raid(2, 1)", 0, 1);
        due("raid(1, 2)", r.raid(1, 2), 2);
        lies(r, "raid(1, 2)", 0, 1);
        // For a: u only (10). For d: w only (10). Each may also hold what the other one wants.
        due("raid(0, 3)", r.raid(0, 3), 2);
        lies(r, "raid(0, 3)", 0, 2);
        due("raid of one herd", r.raid(1, 1), -1);
        lies(r, "raid of one herd");
        r.chain();
        due("raid(5, 0)", r.raid(5, 0), -1);
        lies(r, "raid(5, 0)");
        due("raid(0, 5)", r.raid(0, 5), -1);
        due("raid(-1, 0)", r.raid(-1, 0), -1);
        due("raid(0, -1)", r.raid(0, -1), -1);
        due("raid without beasts", Checks.told("herd a strokes 0;herd b strokes 1;").raid(0, 1), -1);
        HideReader one = Checks.told("herd a strokes 0;herd b strokes 1;beast x of a;");
        due("raid for one beast", one.raid(0, 1), 1);
        lies(one, "raid for one beast", 0, 0);
        HideReader none = Checks.told("herd a strokes 0;herd b strokes 1;herd c strokes 2;beast x of a;beast y of a;");
        due("raid for nothing", none.raid(1, 2), 4);
        lies(none, "raid for nothing", 0, 0);
    }

    private static void odds() {
        int[][] of30 = {{1, 7, 49, 343, 2401}, {1, 10, 100, 1000, 10000}};
        HideReader r = Checks.told("night 30;");
        for (int n = 0; n < 5; n++) {
            due("odds(" + n + ", 0) of 30", r.odds(n, 0), of30[0][n]);
            due("odds(" + n + ", 1) of 30", r.odds(n, 1), of30[1][n]);
        }
        due("odds(5, 0)", r.odds(5, 0), -1);
        due("odds(-1, 0)", r.odds(-1, 0), -1);
        due("odds(1, 2)", r.odds(1, 2), -1);
        due("odds(1, -1)", r.odds(1, -1), -1);
        HideReader always = Checks.told("night 100;");
        due("odds(1, 0) of 100", always.odds(1, 0), 0);
        due("odds(1, 1) of 100", always.odds(1, 1), 1);
        due("odds(0, 0) of 100", always.odds(0, 0), 1);
        due("odds(4, 1) of 100", always.odds(4, 1), 1);
        HideReader most = Checks.told("night 1;");
        due("odds(4, 0) of 1", most.odds(4, 0), 96059601);
        due("odds(4, 1) of 1", most.odds(4, 1), 100000000);
        due("odds(3, 1) of 50", Checks.told("night 50;").odds(3, 1), 8);
        due("odds(2, 0) of 25", Checks.told("night 25;").odds(2, 0), 9);
        due("odds(2, 1) of 4", Checks.told("night 4;").odds(2, 1), 625);
    }

    private static final String SEEN = "herd a strokes 0;herd b strokes 5;iron i strokes 1;iron j strokes 1 2;iron k strokes 3;beast x of a;beast y of b;";

    private static void witnesses() {
        HideReader r = Checks.told(SEEN);
        due("rows(0)", r.rows(0), 9);
        due("sure(1, 0)", r.sure(1, 0), -2);
        due("seen", r.seen(1, 1, true), 0);
        due("rows: i or j first", r.rows(0), 6);
        due("seen", r.seen(1, 2, false), 1);
        due("rows: i first", r.rows(0), 3);
        due("sure(1, 0)", r.sure(1, 0), 0);
        due("sure(2, 0)", r.sure(2, 0), -2);
        due("seen", r.seen(2, 3, true), 2);
        due("rows: i, k", r.rows(0), 1);
        due("sure(2, 0)", r.sure(2, 0), 2);
        due("seen of the hide as at first", r.seen(2, 0, true), 3);
        due("rows", r.rows(0), 1);
        r.burn(0, 2, 0);
        due("rows are not by what is now", r.rows(0), 1);
        due("seen that can't be", r.seen(2, 0, false), 4);
        due("rows", r.rows(0), 0);
        due("sure without rows", r.sure(1, 0), -1);
        due("ask without rows", r.ask(0, 0), -1);
        due("ask without rows", r.ask(1, 0), -1);
        due("how many", r.about(8), 5);
        due("seen(0, ..)", r.seen(0, 0, true), -1);
        due("seen(3, ..)", r.seen(3, 0, true), -1);
        due("seen(1, -1)", r.seen(1, -1, true), -1);
        due("seen(1, 12)", r.seen(1, 12, true), -1);
        due("how many", r.about(8), 5);
        for (int i = 5; i < 30; i++) {
            due("seen", r.seen(1, 1, true), i);
        }
        due("seen, one too many", r.seen(1, 1, true), -1);
        CHECKS.due("untell(29)", r.untell(29), true);
        due("seen, one too many still", r.seen(1, 1, true), -1);
        CHECKS.due("untell(30)", r.untell(30), false);
        CHECKS.due("untell(-1)", r.untell(-1), false);
        HideReader turned = Checks.told("turns 4;mirror;herd a strokes 0;iron i strokes 2;beast x of a;");
        due("rows by placements", turned.rows(0), 64);
        turned.seen(2, 2, false);
        due("rows by placements", turned.rows(0), 36);
        turned.seen(1, 3, true);
        due("rows by placements", turned.rows(0), 12);
        due("rows without irons", Checks.told("herd a strokes 0;beast x of a;").rows(0), 0);
        due("sure without irons", Checks.told("herd a strokes 0;beast x of a;").sure(1, 0), -1);
    }

    private static void knownInTwoTimes() {
        HideReader r = Checks.told(SEEN);
        r.seen(1, 1, true);
        due("later(10)", r.later(10), 10);
        r.seen(1, 2, true);
        due("later(5)", r.later(5), 15);
        CHECKS.due("untell(0)", r.untell(0), true);
        CHECKS.due("untell(0) again", r.untell(0), false);
        r.seen(1, 3, false);
        due("later(0)", r.later(0), 15);
        CHECKS.due("untold when told", r.untell(2), true);
        due("rows(-1)", r.rows(-1), 9);
        due("rows(0)", r.rows(0), 6);
        due("rows(9)", r.rows(9), 6);
        due("rows(10)", r.rows(10), 3);
        due("rows(14)", r.rows(14), 3);
        due("rows(15)", r.rows(15), 3);
        CHECKS.due("untell(1)", r.untell(1), true);
        due("rows(14) once more", r.rows(14), 3);
        due("rows(15) of nothing", r.rows(15), 9);
        due("rows in the end", r.rows(Integer.MAX_VALUE), 9);
        due("rows(least)", r.rows(Integer.MIN_VALUE), 9);
        due("sure(1, 10)", r.sure(1, 10), 1);
        due("sure(1, 9)", r.sure(1, 9), -2);
        due("sure(0, 10)", r.sure(0, 10), -1);
        due("sure(3, 10)", r.sure(3, 10), -1);
        due("about(8)", r.about(8), 3);
        due("later(-1)", r.later(-1), -1);
        due("later(1001)", r.later(1001), -1);
        due("about(9)", r.about(9), 15);
        for (int i = 1; i < 100; i++) {
            r.later(1000);
        }
        due("about(9)", r.about(9), 99015);
        due("later(986)", r.later(986), -1);
        due("later(985)", r.later(985), 100000);
        due("later(1)", r.later(1), -1);
        due("later(0)", r.later(0), 100000);
    }

    private static void asking() {
        HideReader r = Checks.told(SEEN);
        due("ask(0, 0), alike", r.ask(0, 0), 1);
        due("ask(1, 0)", r.ask(1, 0), 3);
        r.seen(1, 1, true);
        r.later(1);
        // Left are i or j, then any: by the first burning 3 at the most, by the second 2.
        due("ask(0, 0)", r.ask(0, 0), 2);
        due("ask(1, 0)", r.ask(1, 0), 2);
        r.seen(2, 3, true);
        // Left are i or j, then k: by the first 1 at the most, by the second 2.
        due("ask(0, 1)", r.ask(0, 1), 1);
        due("ask(1, 1)", r.ask(1, 1), 1);
        due("ask(0, 0) as known before", r.ask(0, 0), 2);
        due("ask(2, 0)", r.ask(2, 0), -1);
        due("ask(-1, 0)", r.ask(-1, 0), -1);
    }

    private static void images() {
        HideReader r = Checks.told(TURNED);
        due("back(0) of nothing", r.back(0), -1);
        r.season();
        due("image(0)", r.image(0), 1);
        due("image is no act", r.about(6), 1);
        int hide = r.beast(0, 0);
        int seed = r.about(5);
        r.burn(0, 1, 3);
        r.sell(0, 2);
        r.season();
        r.undo();
        due("image(2)", r.image(2), 1);
        due("back(0)", r.back(0), 1);
        due("hide", r.beast(0, 0), hide);
        due("owner", r.beast(0, 2), 0);
        due("age", r.age(0, 0), 3);
        due("seed", r.about(5), seed);
        due("no acts", r.about(6), 0);
        due("nothing to redo", r.about(7), 0);
        CHECKS.due("undo", r.undo(), false);
        CHECKS.due("redo", r.redo(), false);
        r.season();
        due("season", r.about(4), 2);
        due("back(0) again", r.back(0), 1);
        due("season", r.about(4), 1);
        due("back(2)", r.back(2), 1);
        due("owner", r.beast(0, 2), 2);
        due("back(1) of nothing", r.back(1), -1);
        due("image(3)", r.image(3), -1);
        due("image(-1)", r.image(-1), -1);
        due("back(3)", r.back(3), -1);
        due("back(-1)", r.back(-1), -1);
        due("image(0) anew", r.image(0), 1);
        r.clean(0);
        due("back(0)", r.back(0), 1);
        due("owner", r.beast(0, 2), 2);
        r.clean(0);
        due("back(1) does nothing", r.back(1), -1);
        due("an act is kept", r.about(6), 1);
    }

    private static void newValley() {
        HideReader r = Checks.told(TURNED + "shows age;");
        r.season();
        r.season();
        r.undo();
        r.chain();
        r.image(0);
        r.image(1);
        r.image(2);
        r.seen(1, 1, true);
        r.later(7);
        r.seen(1, 1, false);
        r.make(1, 65);
        Checks.feed(r, PLAIN);
        due("valley()", r.valley(), 5);
        int[] about = {5, 3, 3, 1, 0, 0, 0, 0, 0, 7, 0, 0, 0, 0, 1};
        for (int i = 0; i < about.length; i++) {
            due("about(" + i + ") of the new valley", r.about(i), about[i]);
        }
        for (int box = 0; box < 3; box++) {
            due("back(" + box + ")", r.back(box), -1);
        }
        CHECKS.due("undo", r.undo(), false);
        CHECKS.due("redo", r.redo(), false);
        CHECKS.due("untell(0)", r.untell(0), false);
        due("rows(7)", r.rows(7), 9);
        due("beast(0, 0)", r.beast(0, 0), 1);
        due("beast(1, 1)", r.beast(1, 1), 3);
        due("age(0, 0)", r.age(0, 0), 4);
        due("make(1, 65) by the new irons", r.make(1, 65), -1);
        due("placed(1, 1)", r.placed(1, 1), -1);
        due("valley() of nothing", r.valley(), 0);
        due("beasts", r.about(2), 0);
        due("brand(0)", r.brand(0), -1);
        due("untouched()", r.untouched(), 4095);
    }

    private static void wrongNumbers() {
        HideReader r = Checks.told(PLAIN);
        int[] wrong = {Integer.MIN_VALUE, -1, 8, 100, Integer.MAX_VALUE};
        for (int w : wrong) {
            due("brand(" + w + ")", r.brand(w), -1);
            due("iron(" + w + ")", r.iron(w), -1);
            due("beast(" + w + ", 0)", r.beast(w, 0), -1);
            due("beast(0, " + w + ")", r.beast(0, w), -1);
            due("age(" + w + ", 0)", r.age(w, 0), -1);
            due("about(" + (w == 8 ? 15 : w) + ")", r.about(w == 8 ? 15 : w), -1);
            due("lies(" + w + ")", r.lies(w), -1);
        }
        due("brand(5)", r.brand(5), -1);
        due("iron(3)", r.iron(3), -1);
        due("beast(3, 0)", r.beast(3, 0), -1);
        due("beast(0, 6)", r.beast(0, 6), -1);
        due("age(3, 0)", r.age(3, 0), -1);
        due("age(0, 12)", r.age(0, 12), -1);
        due("age(0, -1)", r.age(0, -1), -1);
        due("age(0, 32)", r.age(0, 32), -1);
    }
}
