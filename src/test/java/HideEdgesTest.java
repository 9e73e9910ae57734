/** The edges of HIDES and ACTS: promises 6 to 9, 12 to 17, 53 and 54. */
public final class HideEdgesTest {
    private static final Checks CHECKS = new Checks();
    private static final int[] FAR = {Integer.MIN_VALUE, -2, -1, 8, 9, 64, Integer.MAX_VALUE};
    // Strokes: a 0; b 0 1; irons: p 1, q 2 3.
    private static final String PLAIN = "herd a strokes 0;herd b strokes 0 1;iron p strokes 1;iron q strokes 2 3;beast x of a born 4;beast y of b;";

    public static void main(String[] args) {
        brandsAndIrons();
        beasts();
        ages();
        eachDraw();
        restIsLessThanNight();
        seedGoesOnByBeasts();
        seasonFirstThenNight();
        strokeOnTheHideAlready();
        seasonsAreActs();
        burnings();
        sales();
        cleanings();
        actsKept();
        redoTillAnotherAct();
        undoEachKind();
        actsThatChangeNothing();
        lastSeason();
        oldestAge();
        boxes();
        boxesKeepAll();
        backKeepsNoActs();
        boxesAndValleys();
        eachStrokeComesNew();
        allBeastsAndStrokes();
        CHECKS.close("HideEdgesTest");
    }

    private static void due(String what, long got, long want) {
        CHECKS.due(what, got, want);
    }

    private static void due(String what, boolean got, boolean want) {
        CHECKS.due(what, got, want);
    }

    /** Promises 6, 7: "NONE if there is none such". */
    private static void brandsAndIrons() {
        HideReader none = new HideReader();
        HideReader two = Checks.told(PLAIN);
        for (int far : FAR) {
            due("brand(" + far + ") of none", none.brand(far), -1);
            due("iron(" + far + ") of none", none.iron(far), -1);
            due("brand(" + far + ")", two.brand(far), -1);
            due("iron(" + far + ")", two.iron(far), -1);
        }
        due("brand(0) of none", none.brand(0), -1);
        due("iron(0) of none", none.iron(0), -1);
        due("brand(1), the last", two.brand(1), 3);
        due("brand(2), one behind", two.brand(2), -1);
        due("iron(1), the last", two.iron(1), 12);
        due("iron(2), one behind", two.iron(2), -1);
        HideReader turned = Checks.told("turns 4;mirror;herd a strokes 11;iron i strokes 10 11;");
        due("brand(0) as told, not the least", turned.brand(0), 2048);
        due("iron(0) as told, not the least", turned.iron(0), 3072);
        HideReader full = Checks.told("herd a strokes 0 1 2 3 4 5 6 7 8 9 10 11;iron a strokes 11 10 9 8 7 6 5 4 3 2 1 0;");
        due("brand(0) of all strokes", full.brand(0), 4095);
        due("iron(0) of all strokes", full.iron(0), 4095);
    }

    /** Promise 8: what 0 .. 5; "NONE if there is none such, or for another what". */
    private static void beasts() {
        HideReader r = Checks.told(PLAIN + "shows stroke;");
        int[][] want = {{1, 0, 0, 0, 4, 1}, {3, 2, 1, 1, 0, 2}};
        for (int b = 0; b < 2; b++) {
            for (int what = 0; what <= 5; what++) {
                due("beast(" + b + ", " + what + ")", r.beast(b, what), want[b][what]);
            }
            for (int what : new int[] {Integer.MIN_VALUE, -1, 6, 7, Integer.MAX_VALUE}) {
                due("beast(" + b + ", " + what + ")", r.beast(b, what), -1);
            }
        }
        HideReader none = Checks.told("herd a strokes 0;");
        for (int what = 0; what <= 5; what++) {
            due("beast(2, " + what + "), one behind", r.beast(2, what), -1);
            due("beast(-1, " + what + ")", r.beast(-1, what), -1);
            due("beast(0, " + what + ") of none", none.beast(0, what), -1);
        }
        for (int far : FAR) {
            due("beast(" + far + ", 0)", r.beast(far, 0), -1);
        }
    }

    /** Promise 9: "NONE if it is not on it, or one can't be". */
    private static void ages() {
        HideReader r = Checks.told("herd a strokes 0 11;beast x of a born 99;beast y of a;");
        due("age(0, 0)", r.age(0, 0), 99);
        due("age(0, 11)", r.age(0, 11), 99);
        due("age(1, 11)", r.age(1, 11), 0);
        for (int s = 1; s <= 10; s++) {
            due("age(0, " + s + "), not on it", r.age(0, s), -1);
        }
        for (int s : new int[] {Integer.MIN_VALUE, -1, 12, 13, 31, 32, 43, Integer.MAX_VALUE}) {
            due("age(0, " + s + ")", r.age(0, s), -1);
        }
        for (int far : FAR) {
            due("age(" + far + ", 0)", r.age(far, 0), -1);
        }
        due("age(2, 0), one behind", r.age(2, 0), -1);
        due("age(0, 0) of none", new HideReader().age(0, 0), -1);
    }

    /** Every draw there is, by every night: "its 137-fold and 71 more, modulo 1,000", "the SEED by 12 (its rest)". */
    private static void eachDraw() {
        for (int draw = 0; draw < 1000; draw++) {
            HideReader r = Checks.told("herd a strokes 0 6;beast x of a;night 100;draw " + draw + ";");
            int seed = (draw * 137 + 71) % 1000;
            due("season() by draw " + draw, r.season(), 1);
            due("the SEED behind draw " + draw, r.about(5), seed);
            due("the HIDE behind draw " + draw, r.beast(0, 0), 65 | 1 << seed % 12);
        }
    }

    /** "if its rest by 100 is less than night tells". */
    private static void restIsLessThanNight() {
        // By draw the SEED gets: 7: 30, 929: 344, 16: 263, 37: 140, 97: 360, 57: 880, 0: 71, 287: 390, 144: 799, 217: 800.
        int[] draws = {7, 929, 16, 37, 97, 57, 0, 287, 144, 217};
        int[] seeds = {30, 344, 263, 140, 360, 880, 71, 390, 799, 800};
        for (int i = 0; i < draws.length; i++) {
            int rest = seeds[i] % 100;
            HideReader less = Checks.told("herd a strokes 0;beast x of a;draw " + draws[i] + ";night " + rest + ";");
            due("rest " + rest + ", night " + rest, less.season(), 0);
            due("its SEED", less.about(5), seeds[i]);
            due("its HIDE", less.beast(0, 0), 1);
            HideReader more = Checks.told("herd a strokes 0;beast x of a;draw " + draws[i] + ";night " + (rest + 1) + ";");
            due("rest " + rest + ", night " + (rest + 1), more.season(), 1);
            due("its SEED", more.about(5), seeds[i]);
            due("its HIDE", more.beast(0, 0), 1 | 1 << seeds[i] % 12);
        }
        due("rest 0, night 0", Checks.told("herd a strokes 0;beast x of a;draw 217;night 0;").season(), 0);
        due("rest 0, night 1", Checks.told("herd a strokes 0;beast x of a;draw 217;night 1;").season(), 1);
        due("rest 99, night 99", Checks.told("herd a strokes 0;beast x of a;draw 144;night 99;").season(), 0);
        due("rest 99, night 100", Checks.told("herd a strokes 0;beast x of a;draw 144;night 100;").season(), 1);
        due("night not told", Checks.told("herd a strokes 0;beast x of a;draw 217;").season(), 0);
    }

    /** "then, BEAST by BEAST, the SEED becomes ..". */
    private static void seedGoesOnByBeasts() {
        StringBuilder text = new StringBuilder("herd a strokes 0;night 50;");
        for (int n = 0; n <= 8; n++) {
            HideReader r = Checks.told(text.toString());
            int seed = 0;
            int burned = 0;
            int[] hides = new int[n];
            java.util.Arrays.fill(hides, 1);
            for (int season = 1; season <= 5; season++) {
                burned = 0;
                for (int b = 0; b < n; b++) {
                    seed = (seed * 137 + 71) % 1000;
                    burned |= seed % 100 < 50 ? 1 << b : 0;
                    hides[b] |= seed % 100 < 50 ? 1 << seed % 12 : 0;
                }
                due("season() of " + n + " beasts", r.season(), burned);
                due("the SEED", r.about(5), seed);
                due("the season", r.about(4), season);
                for (int b = 0; b < n; b++) {
                    due("HIDE " + b, r.beast(b, 0), hides[b]);
                }
            }
            text.append("beast b").append((char) ('a' + n)).append(" of a;");
        }
    }

    /** "each AGE is 1 more .., the season goes up by 1; then ..": what a night brings has AGE 0. */
    private static void seasonFirstThenNight() {
        HideReader r = Checks.told("herd a strokes 0;beast x of a born 4;night 100;draw 7;");
        r.season();
        due("age of what was there", r.age(0, 0), 5);
        due("the SEED", r.about(5), 30);
        due("age of what came", r.age(0, 6), 0);
        r.season();
        due("age of what came a season ago", r.age(0, 6), 1);
        due("born stays", r.beast(0, 4), 4);
        HideReader cleaned = Checks.told("herd a strokes 0;beast x of a born 4;");
        cleaned.clean(0);
        cleaned.season();
        due("age behind cleaning and a season", cleaned.age(0, 0), 1);
        HideReader burned = Checks.told(PLAIN);
        burned.season();
        burned.burn(0, 1, 0);
        burned.season();
        due("age of an old stroke", burned.age(0, 0), 6);
        due("age of a burned one", burned.age(0, 2), 1);
        // Strokes that went and came again are new.
        burned.clean(0);
        burned.season();
        burned.season();
        burned.burn(0, 1, 0);
        due("age of one that came again", burned.age(0, 2), 0);
        due("age of the brand", burned.age(0, 0), 2);
    }

    /** Promise 12: "who was burned in the nights, as bits (also where the STROKE was on the HIDE)". */
    private static void strokeOnTheHideAlready() {
        HideReader r = Checks.told("herd a strokes 6;beast x of a born 4;beast y of a;night 100;draw 7;");
        // SEEDS: 30 (stroke 6), 181 (stroke 1).
        due("season()", r.season(), 3);
        due("HIDE of x", r.beast(0, 0), 64);
        due("its AGE goes on", r.age(0, 6), 5);
        due("HIDE of y", r.beast(1, 0), 66);
        HideReader full = Checks.told("herd a strokes 0 1 2 3 4 5 6 7 8 9 10 11;beast x of a born 1;night 100;");
        for (int i = 0; i < 12; i++) {
            due("season() of a full HIDE", full.season(), 1);
        }
        for (int s = 0; s < 12; s++) {
            due("AGE of stroke " + s, full.age(0, s), 13);
        }
    }

    private static void seasonsAreActs() {
        HideReader r = new HideReader();
        due("season() of a new object", r.season(), 0);
        due("about(6)", r.about(6), 1);
        due("about(4)", r.about(4), 1);
        due("undo", r.undo(), true);
        due("about(4)", r.about(4), 0);
        due("about(7)", r.about(7), 1);
    }

    /** Promise 13: "how many STROKES came; NONE, doing nothing, if one can't be". */
    private static void burnings() {
        HideReader r = Checks.told(PLAIN);
        due("burn: two came", r.burn(0, 1, 0), 2);
        due("AGE of what came", r.age(0, 2), 0);
        due("AGE of what was there", r.age(0, 0), 4);
        due("burn: none came", r.burn(0, 1, 0), 0);
        due("an ACT, too", r.about(6), 2);
        due("burn of another", r.burn(1, 0, 0), 0);
        due("HIDE of the other", r.beast(1, 0), 3);
        r.season();
        due("burn: one came", r.burn(0, 0, 0), 1);
        due("burn where all was", r.burn(0, 1, 0), 0);
        due("AGE of what was there", r.age(0, 2), 1);
        due("AGE of what came", r.age(0, 1), 0);
        int acts = r.about(6);
        for (int far : FAR) {
            due("burn(" + far + ", 0, 0)", r.burn(far, 0, 0), -1);
            due("burn(0, " + far + ", 0)", r.burn(0, far, 0), -1);
            due("burn(0, 0, " + far + ")", r.burn(0, 0, far), -1);
        }
        due("burn(2, 0, 0), one behind", r.burn(2, 0, 0), -1);
        due("burn(0, 2, 0), one behind", r.burn(0, 2, 0), -1);
        due("burn(0, 0, 1), one behind", r.burn(0, 0, 1), -1);
        due("no ACTS", r.about(6), acts);
        due("the HIDE", r.beast(0, 0), 15);
        HideReader all = Checks.told("herd a strokes 5;iron i strokes 0 1 2 3 4 5 6 7 8 9 10 11;beast x of a;");
        due("burn: eleven came", all.burn(0, 0, 0), 11);
        due("a full HIDE", all.beast(0, 5), 12);
        due("burn: none came", all.burn(0, 0, 0), 0);
        due("burn without irons", Checks.told("herd a strokes 0;beast x of a;").burn(0, 0, 0), -1);
    }

    /** Promise 14: "whose it was; NONE, doing nothing, if it belongs to that HERD, or one can't be". */
    private static void sales() {
        HideReader r = Checks.told(PLAIN + "herd c strokes 5;");
        due("sell to its OWNER", r.sell(0, 0), -1);
        due("no ACT", r.about(6), 0);
        due("sell(0, 2)", r.sell(0, 2), 0);
        due("sell to its OWNER of now", r.sell(0, 2), -1);
        due("sell back", r.sell(0, 0), 2);
        due("sell(1, 0)", r.sell(1, 0), 1);
        due("OWNER", r.beast(1, 2), 0);
        due("HERD told at first", r.beast(1, 3), 1);
        due("its HIDE stays", r.beast(1, 0), 3);
        due("ACTS", r.about(6), 3);
        for (int far : FAR) {
            due("sell(" + far + ", 0)", r.sell(far, 0), -1);
            due("sell(0, " + far + ")", r.sell(0, far), -1);
        }
        due("sell(2, 0), one behind", r.sell(2, 0), -1);
        due("sell(0, 3), one behind", r.sell(0, 3), -1);
        due("no ACTS", r.about(6), 3);
        due("sell of none", new HideReader().sell(0, 0), -1);
    }

    /** Promise 15: "how many STROKES went; NONE, doing nothing, if there is none such". */
    private static void cleanings() {
        HideReader r = Checks.told(PLAIN);
        due("clean: none went", r.clean(0), 0);
        due("AGE 0", r.age(0, 0), 0);
        due("born stays", r.beast(0, 4), 4);
        r.burn(0, 1, 0);
        r.burn(0, 0, 0);
        r.sell(0, 1);
        due("clean: three went", r.clean(0), 3);
        due("the brand of the HERD told at first", r.beast(0, 0), 1);
        due("the OWNER stays", r.beast(0, 2), 1);
        due("AGE of what went", r.age(0, 2), -1);
        due("the other HIDE", r.beast(1, 0), 3);
        due("ACTS", r.about(6), 5);
        for (int far : FAR) {
            due("clean(" + far + ")", r.clean(far), -1);
        }
        due("clean(2), one behind", r.clean(2), -1);
        due("no ACTS", r.about(6), 5);
        HideReader all = Checks.told("herd a strokes 5;iron i strokes 0 1 2 3 4 5 6 7 8 9 10 11;beast x of a;");
        all.burn(0, 0, 0);
        due("clean: eleven went", all.clean(0), 11);
        due("clean of none", new HideReader().clean(0), -1);
        HideReader night = Checks.told("herd a strokes 0;beast x of a;night 100;draw 7;");
        night.season();
        due("clean: what a night brought", night.clean(0), 1);
        due("the SEED stays", night.about(5), 30);
        due("the season stays", night.about(4), 1);
    }

    /** Promise 16: "40 at most are kept, the oldest go"; "false if there is none". */
    private static void actsKept() {
        for (int n : new int[] {0, 1, 2, 39, 40, 41, 42, 80, 81, 82, 123}) {
            HideReader r = Checks.told("herd a strokes 0;beast x of a;");
            int kept = Math.min(n, 40);
            for (int i = 0; i < n; i++) {
                r.season();
            }
            due("about(6) behind " + n, r.about(6), kept);
            due("about(7) behind " + n, r.about(7), 0);
            due("redo behind " + n, r.redo(), false);
            for (int i = 1; i <= kept; i++) {
                due("undo behind " + n, r.undo(), true);
                due("the season behind it", r.about(4), n - i);
                due("about(7)", r.about(7), i);
            }
            due("undo once more behind " + n, r.undo(), false);
            due("about(6) at the oldest", r.about(6), 0);
            due("about(7) at the oldest", r.about(7), kept);
            due("the season stays", r.about(4), n - kept);
            for (int i = 1; i <= kept; i++) {
                due("redo behind " + n, r.redo(), true);
            }
            due("redo once more behind " + n, r.redo(), false);
            due("the season at the end", r.about(4), n);
            due("AGE at the end", r.age(0, 0), n);
            due("about(6) at the end", r.about(6), kept);
        }
    }

    /** Promise 17: "REDO does that again which was taken back last (till another ACT)". */
    private static void redoTillAnotherAct() {
        HideReader r = Checks.told(PLAIN);
        due("redo at first", r.redo(), false);
        r.burn(0, 0, 0);
        r.burn(0, 1, 0);
        r.sell(0, 1);
        due("redo, nothing taken back", r.redo(), false);
        r.undo();
        r.undo();
        due("two to redo", r.about(7), 2);
        r.burn(7, 0, 0);
        r.sell(0, 0);
        r.clean(2);
        r.undo();
        r.redo();
        r.image(0);
        r.make(1, 3);
        r.forge(0, 1);
        r.chain();
        r.seen(1, 1, true);
        r.later(3);
        due("two to redo still", r.about(7), 2);
        due("redo the burning", r.redo(), true);
        due("the HIDE", r.beast(0, 0), 15);
        r.undo();
        r.clean(0);
        due("none to redo behind another ACT", r.about(7), 0);
        due("redo", r.redo(), false);
        due("two to undo", r.about(6), 2);
        // Forty kept, some taken back, then another one: the ones before it stay.
        for (int i = 0; i < 45; i++) {
            r.season();
        }
        for (int i = 0; i < 10; i++) {
            r.undo();
        }
        due("thirty left", r.about(6), 30);
        r.season();
        due("and one more", r.about(6), 31);
        due("the season", r.about(4), 36);
        for (int i = 0; i < 31; i++) {
            due("undo", r.undo(), true);
        }
        due("undo", r.undo(), false);
        due("the season of the oldest", r.about(4), 5);
    }

    private static void undoEachKind() {
        HideReader r = Checks.told(PLAIN + "night 100;draw 7;");
        r.season();
        due("HIDE of x", r.beast(0, 0), 65);
        due("undo the season", r.undo(), true);
        due("HIDE of x", r.beast(0, 0), 1);
        due("HIDE of y", r.beast(1, 0), 3);
        due("AGE of x", r.age(0, 0), 4);
        due("the SEED", r.about(5), 7);
        due("the season", r.about(4), 0);
        due("redo the season", r.redo(), true);
        due("HIDE of x", r.beast(0, 0), 65);
        due("AGE of what came", r.age(0, 6), 0);
        due("the SEED", r.about(5), 181);
        r.burn(0, 1, 0);
        due("undo the burning", r.undo(), true);
        due("HIDE of x", r.beast(0, 0), 65);
        due("redo the burning", r.redo(), true);
        due("HIDE of x", r.beast(0, 0), 77);
        r.sell(0, 1);
        r.undo();
        due("undo the sale: OWNER", r.beast(0, 2), 0);
        r.redo();
        due("redo the sale: OWNER", r.beast(0, 2), 1);
        r.clean(0);
        r.undo();
        due("undo the cleaning: HIDE", r.beast(0, 0), 77);
        due("undo the cleaning: AGE", r.age(0, 0), 5);
        r.redo();
        due("redo the cleaning: HIDE", r.beast(0, 0), 1);
        due("redo the cleaning: AGE", r.age(0, 0), 0);
    }

    private static void actsThatChangeNothing() {
        HideReader r = Checks.told(PLAIN);
        r.clean(1);
        r.clean(1);
        r.burn(1, 0, 0);
        due("cleanings and burnings that bring nothing are ACTS", r.about(6), 3);
        due("undo", r.undo(), true);
        due("undo", r.undo(), true);
        due("undo", r.undo(), true);
        due("undo", r.undo(), false);
    }

    /** Promise 12: "NONE, doing nothing, behind 999 of them". Only beyond 512 calls, where nothing is promised. */
    private static void lastSeason() {
        HideReader r = Checks.told("herd a strokes 0;beast x of a;");
        for (int i = 1; i <= 999; i++) {
            due("season() " + i, r.season(), 0);
        }
        int seed = r.about(5);
        due("season() behind 999", r.season(), -1);
        due("the season", r.about(4), 999);
        due("the SEED", r.about(5), seed);
        due("ACTS", r.about(6), 40);
        r.undo();
        due("season() behind 998", r.season(), 0);
        due("season() behind 999", r.season(), -1);
        r.undo();
        r.season();
        due("nothing to redo", r.about(7), 0);
    }

    /** "each AGE is 1 more (999 at most)". */
    private static void oldestAge() {
        HideReader r = Checks.told("herd a strokes 0;iron i strokes 1;beast x of a born 99;shows age > 998;");
        for (int i = 0; i < 899; i++) {
            r.season();
        }
        due("AGE behind 899 seasons", r.age(0, 0), 998);
        due("not yet", r.beast(0, 1), 0);
        due("will(1)", r.will(1), 1);
        due("will(60)", r.will(60), 1);
        r.season();
        due("AGE behind 900 seasons", r.age(0, 0), 999);
        r.burn(0, 0, 0);
        r.season();
        due("AGE behind 901 seasons", r.age(0, 0), 999);
        due("AGE of what came", r.age(0, 1), 1);
        due("oldest", r.oldest(0), 999);
        due("will(60) stays at 999", r.will(60), 1);
        HideReader beyond = Checks.told("herd a strokes 0;beast x of a born 99;shows age > 999;");
        for (int i = 0; i < 880; i++) {
            beyond.season();
        }
        due("will(60) is not beyond 999", beyond.will(60), 0);
    }

    /** Promises 53, 54: BOX 0 .. 2. */
    private static void boxes() {
        HideReader r = Checks.told(PLAIN);
        for (int box : new int[] {Integer.MIN_VALUE, -1, 3, 4, Integer.MAX_VALUE}) {
            due("image(" + box + ")", r.image(box), -1);
            due("back(" + box + ")", r.back(box), -1);
        }
        for (int box = 0; box < 3; box++) {
            due("back(" + box + ") of nothing", r.back(box), -1);
        }
        r.season();
        due("image(0)", r.image(0), 1);
        r.season();
        due("image(2)", r.image(2), 2);
        due("back(1) of nothing", r.back(1), -1);
        due("it did nothing", r.about(4), 2);
        due("ACTS are kept", r.about(6), 2);
        due("back(0)", r.back(0), 1);
        due("back(2)", r.back(2), 2);
        due("back(0), kept still", r.back(0), 1);
        due("the season", r.about(4), 1);
        r.season();
        r.season();
        due("image(0) of a later one", r.image(0), 3);
        due("back(2)", r.back(2), 2);
        due("back(0)", r.back(0), 3);
        due("image of a new object", new HideReader().image(0), 0);
        due("back on a new object", new HideReader().back(0), -1);
    }

    /** "HIDES, AGES, OWNERS, the season, the SEED are kept". */
    private static void boxesKeepAll() {
        HideReader r = Checks.told(PLAIN + "night 100;draw 7;");
        r.season();
        r.sell(1, 0);
        r.burn(0, 1, 0);
        due("image(1)", r.image(1), 1);
        r.season();
        r.clean(0);
        r.clean(1);
        r.sell(1, 1);
        r.sell(0, 1);
        r.season();
        due("back(1)", r.back(1), 1);
        due("HIDE of x", r.beast(0, 0), 77);
        due("HIDE of y", r.beast(1, 0), 3);
        due("AGE of the brand", r.age(0, 0), 5);
        due("AGE of what a night brought", r.age(0, 6), 0);
        due("AGE of what an iron brought", r.age(0, 3), 0);
        due("OWNER of x", r.beast(0, 2), 0);
        due("OWNER of y", r.beast(1, 2), 0);
        due("the season", r.about(4), 1);
        due("the SEED", r.about(5), 181);
        due("season() goes on from there", r.season(), 3);
        // SEEDS: 868 (stroke 4), 987 (stroke 3).
        due("HIDE of x", r.beast(0, 0), 77 | 16);
        due("HIDE of y", r.beast(1, 0), 3 | 8);
        due("what is kept is not that which goes on", r.back(1), 1);
        due("HIDE of x", r.beast(0, 0), 77);
    }

    /** "(no ACTS are kept then)". */
    private static void backKeepsNoActs() {
        HideReader r = Checks.told(PLAIN);
        r.season();
        r.season();
        r.undo();
        due("to undo", r.about(6), 1);
        due("to redo", r.about(7), 1);
        r.image(0);
        due("image keeps them: to undo", r.about(6), 1);
        due("image keeps them: to redo", r.about(7), 1);
        r.chain();
        r.seen(1, 1, true);
        r.later(5);
        Checks.feed(r, "mirror");
        due("back(0)", r.back(0), 1);
        due("to undo", r.about(6), 0);
        due("to redo", r.about(7), 0);
        due("undo", r.undo(), false);
        due("redo", r.redo(), false);
        due("what lies there stays", r.about(12), 2);
        due("what is SEEN stays", r.about(8), 1);
        due("the TIME stays", r.about(9), 5);
        due("the TAPE stays", r.about(10), 6);
        r.burn(0, 1, 0);
        due("an ACT behind it", r.about(6), 1);
        due("undo", r.undo(), true);
        due("the season", r.about(4), 1);
    }

    /** "BOXES are empty then". */
    private static void boxesAndValleys() {
        HideReader r = Checks.told(PLAIN);
        r.image(0);
        r.image(1);
        r.image(2);
        Checks.feed(r, "turns 3;");
        r.valley();
        due("back(1) behind a FAULT", r.back(1), 0);
        r.end(0);
        Checks.feed(r, PLAIN);
        due("valley()", r.valley(), 2);
        for (int box = 0; box < 3; box++) {
            due("back(" + box + ") behind a valley", r.back(box), -1);
        }
        r.season();
        due("image(1)", r.image(1), 1);
        due("back(0)", r.back(0), -1);
        due("back(1)", r.back(1), 1);
    }

    /** "those that were not have AGE 0": each stroke, burned or by a night, also when it comes late. */
    private static void eachStrokeComesNew() {
        for (int stroke = 0; stroke < 12; stroke++) {
            int other = (stroke + 1) % 12;
            HideReader r = Checks.told("herd a strokes " + other + ";iron i strokes " + stroke + ";beast x of a born 9;");
            r.season();
            r.season();
            due("burn stroke " + stroke, r.burn(0, 0, 0), 1);
            due("its AGE", r.age(0, stroke), 0);
            due("AGE of what was there", r.age(0, other), 11);
            r.season();
            due("its AGE a season later", r.age(0, stroke), 1);
        }
        // By draw 7 the nights bring strokes 6, 1, 4, 3, 2 (SEED 290), 9 (801), ..
        HideReader night = Checks.told("herd a strokes 11;beast x of a born 9;night 100;draw 7;");
        int seed = 7;
        int hide = 2048;
        for (int season = 1; season <= 30; season++) {
            night.season();
            seed = (137 * seed + 71) % 1000;
            int stroke = seed % 12;
            if ((hide >> stroke & 1) == 0) {
                due("AGE of what season " + season + " brought", night.age(0, stroke), 0);
            }
            hide |= 1 << stroke;
            due("HIDE of season " + season, night.beast(0, 0), hide);
        }
    }

    /** Eight BEASTS of twelve STROKES: AGES, HIDES and OWNERS of all are kept by ACTS and boxes. */
    private static void allBeastsAndStrokes() {
        StringBuilder text = new StringBuilder("herd a strokes 0 1 2 3 4 5 6 7 8 9 10 11;herd b strokes 4;");
        for (int b = 0; b < 8; b++) {
            text.append("beast b").append((char) ('a' + b)).append(" of a born ").append(10 * b).append(";");
        }
        HideReader r = Checks.told(text.toString());
        r.season();
        r.sell(7, 1);
        r.clean(6);
        r.image(1);
        allAges(r, "behind three ACTS", 1, 0);
        r.undo();
        allAges(r, "one undone", 1, 61);
        r.season();
        r.season();
        r.undo();
        r.redo();
        due("OWNER of the last", r.beast(7, 2), 1);
        r.undo();
        r.undo();
        r.undo();
        due("OWNER of the last, undone", r.beast(7, 2), 0);
        r.back(1);
        allAges(r, "brought back", 1, 0);
        due("OWNER of the last, brought back", r.beast(7, 2), 1);
    }

    private static void allAges(HideReader r, String what, int more, int ofCleaned) {
        for (int b = 0; b < 8; b++) {
            for (int s = 0; s < 12; s += b == 6 || b == 7 ? 1 : 11) {
                due(what + ": age(" + b + ", " + s + ")", r.age(b, s), b == 6 ? ofCleaned : 10 * b + more);
            }
        }
    }
}
