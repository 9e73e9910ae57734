import java.math.BigInteger;

/** The edges of what is asked by what is now: promises 18 to 45. */
public final class AskEdgesTest {
    private static final Checks CHECKS = new Checks();
    private static final int[] FAR = {Integer.MIN_VALUE, -2, -1, 8, 9, 64, Integer.MAX_VALUE};
    // Five irons of a stroke each: b is made from a by four, c by five, d is apart.
    private static final String FOUR = "herd a strokes 0;herd b strokes 0 1 2 3 4;herd c strokes 0 1 2 3 4 5;herd d strokes 11;"
        + "iron i strokes 1;iron j strokes 2;iron k strokes 3;iron l strokes 4;iron m strokes 5;";
    private static final String BEASTS = "beast x of a;beast y of b;beast z of d;";

    public static void main(String[] args) {
        making();
        makingByPlacements();
        forging();
        firstRows();
        forgingByPlacements();
        chains();
        chainOfLikeOnes();
        lowestAndHighest();
        fresh();
        origins();
        read();
        claims();
        safe();
        kings();
        temptations();
        useful();
        nearest();
        shared();
        fades();
        twins();
        untouched();
        tells();
        raids();
        restsOfRaids();
        closed();
        strays();
        oldest();
        will();
        law();
        odds();
        asManyAsCanBe();
        sixIronsInAllPlacements();
        CHECKS.close("AskEdgesTest");
    }

    private static void due(String what, long got, long want) {
        CHECKS.due(what, got, want);
    }

    private static void lies(HideReader r, String what, int... row) {
        CHECKS.lies(r, what, row);
    }

    private static final String ALL_STROKES = "0 1 2 3 4 5 6 7 8 9 10 11";

    /** Promise 18: "By how few burnings (0 .. 4)"; "NONE if by none of these". */
    private static void making() {
        HideReader r = Checks.told(FOUR);
        due("by 0", r.make(1, 1), 0);
        due("by 1", r.make(1, 3), 1);
        due("by 2", r.make(1, 7), 2);
        due("by 3", r.make(1, 15), 3);
        due("by 4", r.make(1, 31), 4);
        due("not by 5", r.make(1, 63), -1);
        due("by 4, one is there", r.make(3, 63), 4);
        due("a stroke that no iron has", r.make(1, 65), -1);
        due("strokes that would have to go", r.make(3, 1), -1);
        due("nothing out of nothing", r.make(0, 0), 0);
        due("one out of nothing", r.make(0, 2), 1);
        due("four out of nothing", r.make(0, 30), 4);
        due("five out of nothing", r.make(0, 62), -1);
        due("nothing out of one", r.make(1, 0), -1);
        due("all out of all", r.make(4095, 4095), 0);
        due("all out of nearly all", r.make(4095 & ~2, 4095), 1);
        HideReader none = Checks.told("herd a strokes 0;");
        due("without irons, the same", none.make(5, 5), 0);
        due("without irons, another", none.make(1, 3), -1);
        HideReader wide = Checks.told("iron w strokes 1 2 3;iron v strokes 3 4;");
        due("an iron too wide", wide.make(1, 1 | 2 | 4), -1);
        due("irons over one another", wide.make(1, 31), 2);
        due("an iron over what is there", wide.make(3, 15), 1);
        due("a narrower aim behind a wider one", wide.make(0, 6), -1);
        due("an aim for none", wide.make(0, 1), -1);
        due("an aim of one iron", wide.make(0, 14), 1);
        Checks.feed(wide, "iron w strokes 1;");
        wide.valley();
        due("the same aim by other irons", wide.make(0, 14), -1);
        due("the new iron", wide.make(0, 2), 1);
        HideReader all = Checks.told("iron q strokes 0 1 2;iron r strokes 3 4 5;iron s strokes 6 7 8;iron t strokes 9 10 11;iron u strokes 0 1 2 3 4 5;");
        due("all out of nothing, by the wider", all.make(0, 4095), 3);
        due("the half that is left", all.make(63, 4095), 2);
        due("of each something left", all.make(4095 & ~Checks.bits(2, 5, 8, 11), 4095), 3);
    }

    /** "so that it is ONE with it". */
    private static void makingByPlacements() {
        HideReader r = Checks.told("turns 4;mirror;iron i strokes 0;");
        due("ONE with it already", r.make(1, 2048), 0);
        due("ONE with it by one burning", r.make(4, 1 | 4), 1);
        due("the aim turned round", r.make(1 << 7, Checks.bits(7, 11)), 1);
        due("eight sides, by 4 from 4", r.make(Checks.bits(0, 1, 4, 5), Checks.bits(0, 1, 4, 5, 6, 8, 9, 11)), 4);
        due("eight sides, by 5 from 3", r.make(Checks.bits(0, 1, 4), Checks.bits(0, 1, 4, 5, 6, 8, 9, 11)), -1);
        HideReader plain = Checks.told("iron i strokes 0;");
        due("turns 1: not ONE", plain.make(1, 2), -1);
        HideReader mirror = Checks.told("mirror;iron i strokes 0;");
        due("mirror: ONE", mirror.make(1, 2), 0);
        due("mirror: the iron, too", mirror.make(1, 3), 1);
        due("mirror: not turned", mirror.make(1, 32), -1);
        // Of two ways that the mark lies within the aim, the shorter one.
        HideReader ways = Checks.told("turns 2;iron i strokes 0;iron j strokes 1;iron k strokes 0 1;");
        due("the fewest of all placements", ways.make(1, Checks.bits(0, 1, 5)), 1);
        HideReader narrow = Checks.told("turns 2;iron i strokes 0;iron j strokes 1;");
        due("by narrow irons", narrow.make(1, Checks.bits(0, 1, 5)), 2);
    }

    /** Promise 19: "NONE likewise"; "behind NONE: nothing". */
    private static void forging() {
        HideReader r = Checks.told(FOUR + BEASTS);
        due("forge by 4", r.forge(0, 1), 4);
        lies(r, "forge by 4", 0, 0, 1, 0, 2, 0, 3, 0);
        due("forge by 5", r.forge(0, 2), -1);
        lies(r, "forge by 5");
        due("forge by 1", r.forge(1, 2), 1);
        lies(r, "forge by 1", 4, 0);
        due("forge by 0", r.forge(0, 0), 0);
        lies(r, "forge by 0");
        due("forge what has too much", r.forge(1, 0), -1);
        lies(r, "forge what has too much");
        for (int far : FAR) {
            r.forge(1, 2);
            due("forge(" + far + ", 2)", r.forge(far, 2), -1);
            lies(r, "forge(" + far + ", 2)");
            r.forge(1, 2);
            due("forge(1, " + far + ")", r.forge(1, far), -1);
            lies(r, "forge(1, " + far + ")");
        }
        due("forge(3, 0), one behind", r.forge(3, 0), -1);
        due("forge(0, 4), one behind", r.forge(0, 4), -1);
        due("forge of none", new HideReader().forge(0, 0), -1);
        r.burn(0, 0, 0);
        due("forge by what is now", r.forge(0, 1), 3);
        lies(r, "forge by what is now", 1, 0, 2, 0, 3, 0);
        due("nothing is done", r.beast(0, 0), 3);
        due("nothing is done", r.about(6), 1);
    }

    /** "the first such row (burning by burning: the least IRON, then the least PLACEMENT)". */
    private static void firstRows() {
        HideReader wide = Checks.told("herd a strokes 0;herd b strokes 0 1 2;iron i strokes 1;iron j strokes 2;iron k strokes 1 2;beast x of a;");
        due("the fewest, not the first irons", wide.forge(0, 1), 1);
        lies(wide, "the fewest, not the first irons", 2, 0);
        HideReader order = Checks.told("herd a strokes 0;herd b strokes 0 1 2;iron i strokes 2;iron j strokes 1;beast x of a;");
        order.forge(0, 1);
        lies(order, "the least iron first", 0, 0, 1, 0);
        HideReader like = Checks.told("herd a strokes 0;herd b strokes 0 1;iron z strokes 5;iron i strokes 0 1;iron j strokes 1;beast x of a;");
        like.forge(0, 1);
        lies(like, "of like irons the first", 1, 0);
        HideReader over = Checks.told("herd a strokes 0;herd b strokes 0 1 2 3 4;iron i strokes 1 2;iron j strokes 2 3;iron k strokes 3 4;beast x of a;");
        due("irons over one another", over.forge(0, 1), 2);
        lies(over, "irons over one another", 0, 0, 2, 0);
        HideReader last = Checks.told("herd a strokes 0;herd b strokes 0 1 2 3;iron i strokes 5;iron j strokes 2 3;iron k strokes 1;beast x of a;");
        last.forge(0, 1);
        lies(last, "the first iron does not fit", 1, 0, 2, 0);
    }

    private static void forgingByPlacements() {
        HideReader mirror = Checks.told("mirror;herd a strokes 0;herd b strokes 0 6;iron i strokes 8;beast x of a;");
        due("mirrored", mirror.forge(0, 1), 1);
        lies(mirror, "mirrored", 0, 1);
        HideReader even = Checks.told("turns 4;mirror;herd a strokes 2;herd b strokes 2 3 7 10;iron i strokes 2;beast x of a;");
        // Stroke 2 is 2, 7, 3, 10 by its turns, and mirrored 3, 10, 2, 7.
        due("a cross", even.forge(0, 1), 3);
        lies(even, "a cross", 0, 1, 0, 2, 0, 3);
        HideReader second = Checks.told("turns 4;mirror;herd a strokes 0;herd b strokes 0 2;iron i strokes 0;iron j strokes 2;beast x of a;");
        due("the second iron as it is", second.forge(0, 1), 1);
        lies(second, "the second iron as it is", 1, 0);
        HideReader fewer = Checks.told("turns 4;mirror;iron i strokes 2;");
        Checks.feed(fewer, "herd a strokes 0;herd b strokes 0 7;iron i strokes 5;iron j strokes 7;beast x of a;");
        fewer.valley();
        due("no placement of the valley before", fewer.forge(0, 1), 1);
        lies(fewer, "no placement of the valley before", 1, 0);
        HideReader last = Checks.told("turns 4;mirror;herd a strokes 4;herd b strokes 4 6;iron i strokes 0;beast x of a;");
        // Stroke 0 is 0, 8, 5, 9 by its turns, and mirrored 1, 11, 4, 6; 4 and 11 are ONE with 4 and 6.
        due("to any placement of the brand", last.forge(0, 1), 1);
        lies(last, "to any placement of the brand", 0, 5);
    }

    /** Promise 20: "CHAIN: how many. The first such row lies there then". */
    private static void chains() {
        HideReader none = new HideReader();
        due("chain() without herds", none.chain(), 0);
        lies(none, "chain() without herds");
        HideReader one = Checks.told("herd a strokes 3;");
        due("chain() of one", one.chain(), 1);
        lies(one, "chain() of one", 0);
        HideReader same = Checks.told("herd a strokes 3;herd b strokes 3;herd c strokes 3;");
        due("chain() of ones", same.chain(), 1);
        lies(same, "chain() of ones", 0);
        HideReader turned = Checks.told("turns 4;mirror;herd a strokes 11;herd b strokes 0;herd c strokes 0 6;");
        due("chain() by placements", turned.chain(), 2);
        lies(turned, "chain() by placements", 0, 2);
        StringBuilder up = new StringBuilder();
        StringBuilder down = new StringBuilder();
        StringBuilder strokes = new StringBuilder();
        for (int i = 0; i < 8; i++) {
            strokes.append(" ").append(11 - i);
            up.append("herd u").append((char) ('a' + i)).append(" strokes").append(strokes).append(";");
            down.insert(0, "herd d" + (char) ('a' + i) + " strokes" + strokes + ";");
        }
        HideReader eight = Checks.told(up.toString());
        due("chain() of eight", eight.chain(), 8);
        lies(eight, "chain() of eight", 0, 1, 2, 3, 4, 5, 6, 7);
        HideReader back = Checks.told(down.toString());
        due("chain() of eight, told downward", back.chain(), 8);
        lies(back, "chain() of eight, told downward", 7, 6, 5, 4, 3, 2, 1, 0);
        Checks.feed(back, "herd a strokes 0;herd b strokes 0 1;herd c strokes 5;");
        back.valley();
        due("a shorter chain behind a longer one", back.chain(), 2);
        lies(back, "a shorter chain behind a longer one", 0, 1);
        // What lay there before, of another sort, is gone.
        HideReader r = Checks.told(FOUR + BEASTS);
        r.forge(0, 1);
        due("chain()", r.chain(), 3);
        lies(r, "chain()", 0, 1, 2);
    }

    /** "(HERD by HERD, the least number; from the lowest on)". */
    private static void chainOfLikeOnes() {
        HideReader r = Checks.told("herd a strokes 0 1 2;herd b strokes 5;herd c strokes 0;herd d strokes 0 2;herd e strokes 0 1;herd f strokes 0;herd g strokes 5 6;herd h strokes 2 1 0;");
        due("chain()", r.chain(), 3);
        lies(r, "chain()", 2, 3, 0);
        HideReader two = Checks.told("herd a strokes 5;herd b strokes 0 1;herd c strokes 0;herd d strokes 5 6;");
        due("chain() of two", two.chain(), 2);
        lies(two, "chain() of two", 0, 3);
        // The first herd is in a chain, but not in one of the most.
        HideReader most = Checks.told("herd a strokes 5;herd b strokes 5 6;herd c strokes 0 1 2;herd d strokes 0 1;herd e strokes 1;");
        due("chain(), not from the first herd", most.chain(), 3);
        lies(most, "chain(), not from the first herd", 4, 3, 2);
        // One below fewer, but with the least number, does not go on to the most.
        HideReader on = Checks.told("herd a strokes 0;herd b strokes 0 1 2 3;herd c strokes 0 1;herd d strokes 0 1 2;");
        due("chain() through all", on.chain(), 4);
        lies(on, "chain() through all", 0, 2, 3, 1);
    }

    /** Promises 21, 22: "that is not ONE with it". */
    private static void lowestAndHighest() {
        HideReader none = new HideReader();
        due("lowest() without herds", none.lowest(), 0);
        due("highest() without herds", none.highest(), 0);
        HideReader one = Checks.told("herd a strokes " + ALL_STROKES + ";");
        due("lowest() of one", one.lowest(), 1);
        due("highest() of one", one.highest(), 1);
        StringBuilder s = new StringBuilder("turns 4;mirror;");
        int[] round = {0, 1, 4, 5, 6, 8, 9, 11};
        for (int i = 0; i < 8; i++) {
            s.append("herd h").append((char) ('a' + i)).append(" strokes ").append(round[i]).append(";");
        }
        due("lowest() of eight that are ONE", Checks.told(s.toString()).lowest(), 255);
        due("highest() of eight that are ONE", Checks.told(s.toString()).highest(), 255);
        String plain = s.toString().replace("turns 4;mirror;", "");
        due("lowest() of eight apart", Checks.told(plain).lowest(), 255);
        due("highest() of eight apart", Checks.told(plain).highest(), 255);
        HideReader r = Checks.told("herd a strokes 0 1;herd b strokes 1;herd c strokes 1;herd d strokes 0 1;herd e strokes 1 0 2;herd f strokes 9;");
        due("lowest()", r.lowest(), Checks.bits(1, 2, 5));
        due("highest()", r.highest(), Checks.bits(4, 5));
        HideReader mirror = Checks.told("mirror;herd a strokes 0;herd b strokes 1 6;herd c strokes 0 6;");
        due("lowest() by placements", mirror.lowest(), 1);
        due("highest() by placements", mirror.highest(), 6);
    }

    /** Promise 23: "of the fewest STROKES (1 at least)"; "of like ones the least as bits"; "NONE if there is none". */
    private static void fresh() {
        due("fresh() without herds", new HideReader().fresh(), 1);
        due("fresh(), a brand of all strokes", Checks.told("herd a strokes " + ALL_STROKES + ";").fresh(), -1);
        due("fresh(), all strokes but the last", Checks.told("herd a strokes 0 1 2 3 4 5 6 7 8 9 10;").fresh(), 2048);
        due("fresh(), the last one, too", Checks.told("herd a strokes 0 1 2 3 4 5 6 7 8 9 10;herd b strokes 11;").fresh(), -1);
        due("fresh() of two", Checks.told("herd a strokes 0 1 2 3 4 5 6 7 8 9 10;herd b strokes 1 2 3 4 5 6 7 8 9 10 11;").fresh(), 2049);
        due("fresh() of three", Checks.told("herd a strokes 0 1 2 3 4 5 6 7;herd b strokes 4 5 6 7 8 9 10 11;herd c strokes 0 1 2 3 8 9 10 11;").fresh(), 273);
        due("fresh(), the least of one", Checks.told("herd a strokes 0;").fresh(), 2);
        due("fresh(), not the first strokes", Checks.told("herd a strokes 0 1 2;").fresh(), 8);
        due("fresh(), a brand of one UNDER all of it", Checks.told("herd a strokes 0;herd b strokes 1;herd c strokes 2 3 4 5 6 7 8 9 10 11;").fresh(), -1);
        // Each brand lacks one stroke, or its mirror, but none lacks 7, which the mirror leaves where it is.
        StringBuilder lacking = new StringBuilder("mirror;");
        for (int stroke : new int[] {0, 2, 4, 6, 9, 10}) {
            lacking.append("herd h").append((char) ('a' + stroke)).append(" strokes ").append((ALL_STROKES + " ").replaceFirst("\\b" + stroke + " ", "").trim()).append(";");
        }
        due("fresh() of eleven strokes", Checks.told(lacking.toString()).fresh(), 4095 - 128);
        due("fresh(), turned", Checks.told("turns 4;mirror;herd a strokes 11;").fresh(), 4);
        due("fresh(), turned, none", Checks.told("turns 4;mirror;herd a strokes 11;herd b strokes 10;").fresh(), -1);
        HideReader again = Checks.told("turns 4;mirror;herd a strokes 0;herd b strokes 2;");
        due("fresh(), none", again.fresh(), -1);
        Checks.feed(again, "herd a strokes 3;");
        again.valley();
        due("fresh(), other herds", again.fresh(), 1);
        due("fresh(), half a turn", Checks.told("turns 2;herd a strokes 5;herd b strokes 4;").fresh(), 4);
        due("fresh(), mirrored", Checks.told("mirror;herd a strokes 1;").fresh(), 4);
    }

    /** Promise 24: "(by 4 burnings at most)"; "NONE if there is none such". */
    private static void origins() {
        HideReader r = Checks.told(FOUR + BEASTS + "beast w of c;");
        due("origins(0)", r.origins(0), 1);
        due("origins(1), by 4", r.origins(1), 3);
        due("origins(3), not by 5", r.origins(3), 6);
        due("origins(2)", r.origins(2), 8);
        for (int far : FAR) {
            due("origins(" + far + ")", r.origins(far), -1);
        }
        due("origins(4), one behind", r.origins(4), -1);
        r.burn(2, 0, 0);
        due("origins(2) behind a burning", r.origins(2), 8);
        r.burn(0, 3, 0);
        due("origins(0) behind a burning", r.origins(0), 1);
        due("origins(0) of none", new HideReader().origins(0), -1);
        HideReader night = Checks.told("herd a strokes 0;beast x of a;night 100;draw 7;");
        night.season();
        due("origins(0), what no iron has", night.origins(0), 0);
        HideReader ones = Checks.told("turns 4;herd a strokes 0;herd b strokes 8;herd c strokes 1;beast x of a;");
        due("origins(0) of ONES", ones.origins(0), 3);
    }

    /** Promise 25: "HERDS whose brand is ONE with what SHOWS of it". */
    private static void read() {
        HideReader r = Checks.told("turns 4;herd a strokes 0 5;herd b strokes 8;herd c strokes 5;herd d strokes 2;beast x of a;shows stroke > 2;");
        due("read(0), ONE with what SHOWS", r.read(0), 6);
        due("read(0) of none", new HideReader().read(0), -1);
        for (int far : FAR) {
            due("read(" + far + ")", r.read(far), -1);
        }
        due("read(1), one behind", r.read(1), -1);
        due("read(0), nothing SHOWS", Checks.told("herd a strokes 0;beast x of a;shows 0;").read(0), 0);
        due("read(0), all SHOWS", Checks.told("herd a strokes 0;herd b strokes 0;beast x of a;").read(0), 3);
        due("read(0), by the season of now", Checks.told("herd a strokes 0;beast x of a;shows season = 0;").read(0), 1);
        due("read(0), by the AGE of now", Checks.told("herd a strokes 0;beast x of a born 5;shows age = 5;").read(0), 1);
        HideReader sold = Checks.told("herd a strokes 0;herd b strokes 1;beast x of a;");
        sold.sell(0, 1);
        due("read(0), not the OWNER's", sold.read(0), 1);
    }

    /** Promise 26: "BEASTS that do not belong to it, .. (by 4 at most; by 0, too)". */
    private static void claims() {
        HideReader r = Checks.told(FOUR + BEASTS + "beast w of b;beast v of a;");
        due("claim(0)", r.claim(0), 0);
        due("claim(1), by 4", r.claim(1), Checks.bits(0, 4));
        due("claim(2), not by 5", r.claim(2), Checks.bits(1, 3));
        due("claim(3)", r.claim(3), 0);
        for (int far : FAR) {
            due("claim(" + far + ")", r.claim(far), -1);
        }
        due("claim(4), one behind", r.claim(4), -1);
        r.sell(1, 0);
        due("claim(1), by 0", r.claim(1), Checks.bits(0, 1, 4));
        r.sell(0, 1);
        due("claim(1), not its own", r.claim(1), Checks.bits(1, 4));
        due("claim(0), by 0, what was its own", r.claim(0), Checks.bits(0));
        due("claim(0) of none", new HideReader().claim(0), -1);
        due("claim(0) without beasts", Checks.told("herd a strokes 0;").claim(0), 0);
        due("claim(1) of eight", Checks.told("herd a strokes 0;herd b strokes 0;beast s of a;beast t of a;beast u of a;beast v of a;beast w of a;beast x of a;beast y of a;beast z of a;").claim(1), 255);
    }

    /** Promise 27. */
    private static void safe() {
        due("safe() without herds", new HideReader().safe(), 0);
        HideReader r = Checks.told(FOUR);
        due("safe(), a by 4 into b, b into c", r.safe(), 12);
        due("safe(), not by 5", Checks.told(FOUR.replace("herd b strokes 0 1 2 3 4;", "herd b strokes 10;")).safe(), 15);
        due("safe(), into the first herd", Checks.told("herd a strokes 0 1;herd b strokes 0;iron i strokes 1;").safe(), 1);
        due("safe() of ONES", Checks.told("mirror;herd a strokes 0;herd b strokes 1;iron i strokes 0;").safe(), 3);
        due("safe() of ONES and another", Checks.told("mirror;herd a strokes 0;herd b strokes 1;herd c strokes 0 1;iron i strokes 0;").safe(), 4);
        due("safe() without irons", Checks.told("herd a strokes 0;herd b strokes 0 1;").safe(), 3);
        due("safe() of eight", Checks.told("herd a strokes 0;herd b strokes 1;herd c strokes 2;herd d strokes 3;herd e strokes 4;herd f strokes 5;herd g strokes 6;herd h strokes 7;iron i strokes 0;").safe(), 255);
    }

    /** Promise 28: "NONE without HERDS, or for another what"; "of like ones the first". */
    private static void kings() {
        HideReader none = new HideReader();
        due("king(0) without herds", none.king(0), -1);
        due("king(1) without herds", none.king(1), -1);
        HideReader one = Checks.told("herd a strokes 0;iron i strokes 1;");
        due("king(0) of one", one.king(0), 0);
        due("king(1) of one", one.king(1), 0);
        HideReader r = Checks.told(FOUR);
        due("king(0), by 4", r.king(0), 1);
        due("king(1), by 4", r.king(1), 1);
        for (int what : new int[] {Integer.MIN_VALUE, -1, 2, 3, Integer.MAX_VALUE}) {
            due("king(" + what + ")", r.king(what), -1);
        }
        HideReader five = Checks.told(FOUR.replace("herd b strokes 0 1 2 3 4;", "herd b strokes 10;"));
        due("king(0), not by 5", five.king(0), 0);
        due("king(1), not by 5", five.king(1), 0);
        HideReader most = Checks.told("herd a strokes 0 1 2;herd b strokes 0;herd c strokes 0 1;herd d strokes 1;iron i strokes 1;iron j strokes 0;");
        due("king(0), the most", most.king(0), 2);
        due("king(1), the most", most.king(1), 2);
        HideReader twins = Checks.told("herd a strokes 5;herd b strokes 0;herd c strokes 0;herd d strokes 0;");
        due("king(0), by 0, too", twins.king(0), 1);
        due("king(1), by 0, too", twins.king(1), 2);
        due("king(1) of eight", Checks.told("herd a strokes 0;herd b strokes 0;herd c strokes 0;herd d strokes 0;herd e strokes 0;herd f strokes 0;herd g strokes 0;herd h strokes 0;").king(1), 7);
    }

    /** Promise 29: "by the fewest burnings (1 .. 4); of like ones the first". */
    private static void temptations() {
        HideReader r = Checks.told(FOUR + BEASTS);
        due("tempt(0, 0), by 4", r.tempt(0, 0), 1);
        due("tempt(0, 1), by 4", r.tempt(0, 1), 4);
        due("tempt(1, 0), by 1", r.tempt(1, 0), 2);
        due("tempt(1, 1), by 1", r.tempt(1, 1), 1);
        due("tempt(2, 0), none", r.tempt(2, 0), -1);
        due("tempt(2, 1), none", r.tempt(2, 1), -1);
        for (int far : FAR) {
            due("tempt(" + far + ", 0)", r.tempt(far, 0), -1);
            due("tempt(" + far + ", 1)", r.tempt(far, 1), -1);
        }
        due("tempt(3, 0), one behind", r.tempt(3, 0), -1);
        for (int what : new int[] {Integer.MIN_VALUE, -1, 2, 3, Integer.MAX_VALUE}) {
            due("tempt(0, " + what + ")", r.tempt(0, what), -1);
        }
        r.sell(0, 1);
        due("tempt(0, 0), not its OWNER, not by 5, not by 0", r.tempt(0, 0), -1);
        due("tempt of none", new HideReader().tempt(0, 0), -1);
        HideReader like = Checks.told("herd a strokes 0;herd b strokes 0 1 2;herd c strokes 0 2;herd d strokes 0 1;iron i strokes 1;iron j strokes 2;beast x of a;");
        due("tempt(0, 0), of like ones the first", like.tempt(0, 0), 2);
        due("tempt(0, 1)", like.tempt(0, 1), 1);
        like.sell(0, 2);
        due("tempt(0, 0), the other one", like.tempt(0, 0), 3);
        HideReader into = Checks.told("herd a strokes 0 1;herd b strokes 0;iron i strokes 1;beast x of b;");
        due("tempt(0, 0), into the first herd", into.tempt(0, 0), 0);
        due("tempt(0, 1), into the first herd", into.tempt(0, 1), 1);
        HideReader twin = Checks.told("herd a strokes 0;herd b strokes 0;herd c strokes 0 1;iron i strokes 1;beast x of a;");
        due("tempt(0, 0), not by 0", twin.tempt(0, 0), 2);
        twin.burn(0, 0, 0);
        due("tempt(0, 0), by 0 only", twin.tempt(0, 0), -1);
    }

    /** Promise 30: "by one burning"; "another one that is not ONE with it". */
    private static void useful() {
        due("useful() of none", new HideReader().useful(), 0);
        due("useful() without herds", Checks.told("iron i strokes 0;").useful(), 0);
        due("useful() without irons", Checks.told("herd a strokes 0;herd b strokes 0 1;").useful(), 0);
        due("useful() of one herd", Checks.told("herd a strokes 0;iron i strokes 0;iron j strokes 1;").useful(), 0);
        due("useful(), m alone by one", Checks.told(FOUR).useful(), 16);
        due("useful(), not into a twin", Checks.told("herd a strokes 0;herd b strokes 0;iron i strokes 0;").useful(), 0);
        due("useful(), not into ONE of another turn", Checks.told("turns 4;mirror;herd a strokes 0;herd b strokes 11;iron i strokes 0;").useful(), 0);
        due("useful(), in some placement", Checks.told("turns 4;mirror;herd a strokes 0;herd b strokes 5 11;iron i strokes 4;iron j strokes 2;").useful(), 1);
        due("useful(), all six", Checks.told("herd a strokes 0;herd b strokes 0 1;iron i strokes 1;iron j strokes 0 1;iron k strokes 1;iron l strokes 1 0;iron m strokes 1;iron n strokes 1;").useful(), 63);
        due("useful(), into the first herd", Checks.told("herd a strokes 0 1;herd b strokes 0;iron i strokes 1;").useful(), 1);
        due("useful(), only with what is there", Checks.told("herd a strokes 0;herd b strokes 0 1 2;iron i strokes 1 2;iron j strokes 1;iron k strokes 0 1 2;").useful(), 5);
    }

    /** Promise 31: "of like ones the first"; "NONE without HERDS, or if one can't be". */
    private static void nearest() {
        HideReader none = new HideReader();
        due("nearest(0, 0) without herds", none.nearest(0, 0), -1);
        due("nearest(0, 1) without herds", none.nearest(0, 1), -1);
        HideReader r = Checks.told("herd a strokes 0;herd b strokes 1;herd c strokes " + ALL_STROKES + ";");
        for (int what : new int[] {Integer.MIN_VALUE, -1, 2, 3, Integer.MAX_VALUE}) {
            due("nearest(0, " + what + ")", r.nearest(0, what), -1);
        }
        due("nearest(0, 0), of like ones the first", r.nearest(0, 0), 0);
        due("nearest(0, 1)", r.nearest(0, 1), 1);
        due("nearest(2, 0)", r.nearest(2, 0), 1);
        due("nearest(2, 1)", r.nearest(2, 1), 0);
        due("nearest(4095, 0)", r.nearest(4095, 0), 2);
        due("nearest(4095, 1)", r.nearest(4095, 1), 0);
        due("nearest(3, 0)", r.nearest(3, 0), 0);
        due("nearest(3, 1)", r.nearest(3, 1), 1);
        HideReader far = Checks.told("herd a strokes 11;");
        due("nearest, in all twelve", far.nearest(2047, 1), 12);
        due("nearest, in all twelve", far.nearest(2047, 0), 0);
        HideReader turned = Checks.told("turns 4;mirror;herd a strokes 2;herd b strokes 11;");
        due("turned: nearest(1, 0)", turned.nearest(1, 0), 1);
        due("turned: nearest(1, 1)", turned.nearest(1, 1), 0);
        due("turned: nearest(1024, 0)", turned.nearest(1024, 0), 0);
        due("turned: nearest(1028, 1)", turned.nearest(1028, 1), 1);
    }

    /** Promise 32: "with that of another one (or its own); NONE if one can't be". */
    private static void shared() {
        HideReader r = Checks.told("herd a strokes " + ALL_STROKES + ";herd b strokes 0;herd c strokes 1 2;");
        due("shared(0, 0)", r.shared(0, 0), 12);
        due("shared(0, 2)", r.shared(0, 2), 2);
        due("shared(2, 0)", r.shared(2, 0), 2);
        due("shared(1, 2)", r.shared(1, 2), 0);
        due("shared(1, 1)", r.shared(1, 1), 1);
        for (int far : FAR) {
            due("shared(" + far + ", 0)", r.shared(far, 0), -1);
            due("shared(0, " + far + ")", r.shared(0, far), -1);
        }
        due("shared(3, 0), one behind", r.shared(3, 0), -1);
        due("shared(0, 3), one behind", r.shared(0, 3), -1);
        due("shared(0, 0) of none", new HideReader().shared(0, 0), -1);
        HideReader mirror = Checks.told("mirror;herd a strokes 0 6;herd b strokes 1 8;herd c strokes 0 8;");
        due("mirror: shared(0, 1)", mirror.shared(0, 1), 2);
        due("mirror: shared(0, 2)", mirror.shared(0, 2), 1);
    }

    private static HideReader aged(String formula) {
        return Checks.told("herd a strokes 0 1;beast x of a born 5;beast y of a;night 100;draw 7;shows " + formula + ";");
    }

    /** Promise 33: "Behind how many SEASONS (0 .. 60; no nights) nothing of a BEAST SHOWS first; NONE if not in these". */
    private static void fades() {
        due("fades(0) at once", aged("0").fades(0), 0);
        due("fades(0) behind 1", aged("age < 6").fades(0), 1);
        due("fades(1) behind 6", aged("age < 6").fades(1), 6);
        due("fades(0) behind 59", aged("age < 64").fades(0), 59);
        due("fades(0) behind 60", aged("age < 65").fades(0), 60);
        due("fades(0) not behind 61", aged("age < 66").fades(0), -1);
        due("fades(0) never", aged("1").fades(0), -1);
        due("fades(0) by the season", aged("season < 60").fades(0), 60);
        due("fades(0) by the season, too late", aged("season < 61").fades(0), -1);
        due("fades(0), the first time", aged("not season % 10 = 7").fades(0), 7);
        due("fades(0), all of it", aged("stroke = 0 and age < 7 or stroke = 1 and age < 9").fades(0), 4);
        due("fades(0), no nights", aged("scars < 3 and age < 20").fades(0), 15);
        HideReader r = aged("season < 9");
        r.season();
        r.season();
        r.season();
        due("fades(0) from now on", r.fades(0), 6);
        due("nothing is done: the season", r.about(4), 3);
        for (int far : FAR) {
            due("fades(" + far + ")", r.fades(far), -1);
        }
        due("fades(2), one behind", r.fades(2), -1);
        due("fades(0) of none", new HideReader().fades(0), -1);
    }

    /** Promise 34. */
    private static void twins() {
        due("twins() of none", new HideReader().twins(), 0);
        due("twins() of one", Checks.told("herd a strokes 0;").twins(), 0);
        due("twins() of two", Checks.told("herd a strokes 0;herd b strokes 0;").twins(), 1);
        due("twins() of eight", Checks.told("herd a strokes 0;herd b strokes 0;herd c strokes 0;herd d strokes 0;herd e strokes 0;herd f strokes 0;herd g strokes 0;herd h strokes 0;").twins(), 28);
        due("twins(), two sorts", Checks.told("mirror;herd a strokes 0;herd b strokes 1;herd c strokes 2;herd d strokes 3;herd e strokes 1;").twins(), 4);
        due("twins(), UNDER is not ONE", Checks.told("herd a strokes 0;herd b strokes 0 1;").twins(), 0);
    }

    /** Promise 35. */
    private static void untouched() {
        due("untouched() of none", new HideReader().untouched(), 4095);
        due("untouched() without beasts", Checks.told("herd a strokes 0;").untouched(), 4095);
        due("untouched() of all", Checks.told("herd a strokes " + ALL_STROKES + ";beast x of a;").untouched(), 0);
        HideReader r = Checks.told("herd a strokes 0;herd b strokes 11;herd c strokes 5;iron i strokes 4 6;beast x of a;beast y of b;");
        due("untouched()", r.untouched(), 4095 & ~1 & ~2048);
        r.burn(1, 0, 0);
        due("untouched() behind a burning", r.untouched(), 4095 & ~Checks.bits(0, 4, 6, 11));
        r.clean(1);
        due("untouched() behind a cleaning", r.untouched(), 4095 & ~Checks.bits(0, 11));
    }

    /** Promise 36: "twice how many have it less how many there are, without its sign, is least"; "NONE without BEASTS". */
    private static void tells() {
        due("tells() of none", new HideReader().tells(), -1);
        due("tells() without beasts", Checks.told("herd a strokes 0;").tells(), -1);
        due("tells() of one beast", Checks.told("herd a strokes 11;beast x of a;").tells(), 0);
        due("tells(), half have the last", Checks.told("herd a strokes 0;herd b strokes 0 11;beast x of a;beast y of b;").tells(), 11);
        due("tells(), one of three is as near as two", Checks.told("herd a strokes 3;herd b strokes 3 2;herd c strokes 9;beast x of a;beast y of b;beast z of c;").tells(), 2);
        due("tells(), two of three are as near as one", Checks.told("herd a strokes 2;herd b strokes 3 2;herd c strokes 9;beast x of a;beast y of b;beast z of c;").tells(), 2);
        due("tells(), all or none", Checks.told("herd a strokes 5 6;beast x of a;beast y of a;").tells(), 0);
        HideReader r = Checks.told("herd a strokes 0;iron i strokes 7;beast x of a;beast y of a;beast z of a;beast w of a;");
        due("tells(), none or all of four", r.tells(), 0);
        r.burn(0, 0, 0);
        due("tells(), one of four", r.tells(), 7);
        r.burn(1, 0, 0);
        due("tells(), two of four", r.tells(), 7);
        r.burn(2, 0, 0);
        r.burn(3, 0, 0);
        due("tells(), all of four", r.tells(), 0);
    }

    /** Promise 37: "NONE if both are one, there are no BEASTS, or one can't be"; "behind 0, NONE: nothing". */
    private static void raids() {
        HideReader r = Checks.told(FOUR + BEASTS);
        // For a: x 10. For b: x 6, y 10.
        due("raid(0, 1)", r.raid(0, 1), 2);
        lies(r, "raid(0, 1)", 0, 1);
        int[][] wrong = {{0, 0}, {3, 3}, {-1, 0}, {0, -1}, {4, 0}, {0, 4}, {-1, -1}, {4, 4}, {Integer.MAX_VALUE, 0}, {0, Integer.MIN_VALUE}};
        for (int[] w : wrong) {
            r.chain();
            due("raid(" + w[0] + ", " + w[1] + ")", r.raid(w[0], w[1]), -1);
            lies(r, "raid(" + w[0] + ", " + w[1] + ")");
        }
        HideReader none = Checks.told(FOUR);
        none.chain();
        due("raid without beasts", none.raid(0, 1), -1);
        lies(none, "raid without beasts");
        due("raid of a new object", new HideReader().raid(0, 1), -1);
    }

    private static void restsOfRaids() {
        HideReader one = Checks.told("herd a strokes 0;herd b strokes 0;beast x of a;");
        due("one beast for both", one.raid(0, 1), 1);
        lies(one, "one beast for both", 0, 0);
        HideReader two = Checks.told("herd a strokes 0;herd b strokes 0;beast x of a;beast y of a;");
        due("two alike", two.raid(0, 1), 2);
        lies(two, "two alike", 0, 1);
        // For b: x by 1 (9), y by 0 (10); for a: x 10, y nothing.
        HideReader apart = Checks.told("herd a strokes 0;herd b strokes 0 1;iron i strokes 1;beast x of a;beast y of b;");
        due("the other way round", apart.raid(1, 0), 2);
        lies(apart, "the other way round", 0, 1);
        // x is nobody's, y is a's, z is b's.
        HideReader third = Checks.told("herd a strokes 0;herd b strokes 1;herd c strokes 2;beast x of c;beast y of a;beast z of b;");
        due("each its own, not the first", third.raid(0, 1), 2);
        lies(third, "each its own, not the first", 1, 2);
        due("each its own, the other way round", third.raid(1, 0), 2);
        lies(third, "each its own, the other way round", 1, 2);
        HideReader one3 = Checks.told("herd a strokes 0;herd b strokes 1;herd c strokes 2;beast x of c;beast y of c;beast z of a;");
        due("one for a, none for b", one3.raid(0, 1), 5);
        lies(one3, "one for a, none for b", 0, 2);
        // Nothing can be had by either: all is at rest.
        HideReader nothing = Checks.told("herd a strokes 0;herd b strokes 1;herd c strokes 2;beast x of a;beast y of a;beast z of a;");
        due("nothing for both", nothing.raid(1, 2), 9);
        lies(nothing, "nothing for both", 0, 0);
        // For b: x nothing, y by 4 (6); for c: nothing, y only by 5; for d: x by 0 (10).
        HideReader far = Checks.told(FOUR + "beast x of d;beast y of a;");
        due("by 4 it gets 6, by 5 nothing", far.raid(1, 2), 3);
        lies(far, "by 4 it gets 6, by 5 nothing", 0, 1);
        due("by 5 nothing, by 0 10", far.raid(2, 3), 3);
        lies(far, "by 5 nothing, by 0 10", 0, 0);
        due("each its own", far.raid(3, 1), 2);
        lies(far, "each its own", 0, 1);
    }

    /** Promise 38: "if no brand is UNDER that of another one". */
    private static void closed() {
        due("closed() of none", new HideReader().closed(), 1);
        due("closed() of one", Checks.told("herd a strokes 0;").closed(), 1);
        due("closed() of two apart", Checks.told("herd a strokes 0;herd b strokes 1;").closed(), 1);
        due("closed() of two ONE", Checks.told("herd a strokes 0;herd b strokes 0;").closed(), 0);
        due("closed() of two ONE by a placement", Checks.told("mirror;herd a strokes 0;herd b strokes 1;").closed(), 0);
        due("closed(), the first UNDER the last", Checks.told("herd a strokes 0;herd b strokes 1 2;herd c strokes 0 5;").closed(), 0);
        due("closed(), the last UNDER the first", Checks.told("herd a strokes 0 5;herd b strokes 1 2;herd c strokes 5;").closed(), 0);
        due("closed(), UNDER by a placement", Checks.told("turns 2;herd a strokes 0;herd b strokes 5 6;").closed(), 0);
        due("closed() of eight", Checks.told("herd a strokes 0;herd b strokes 1;herd c strokes 2;herd d strokes 3;herd e strokes 4;herd f strokes 5;herd g strokes 6;herd h strokes 7;").closed(), 1);
    }

    /** Promise 41. */
    private static void strays() {
        due("strays() of none", new HideReader().strays(), 0);
        HideReader r = Checks.told("mirror;herd a strokes 0;herd b strokes 1;herd c strokes 2;herd d strokes 0 1;iron i strokes 0;beast x of a;beast y of c;beast z of d;");
        due("strays() at first", r.strays(), 0);
        r.sell(0, 1);
        due("strays(), ONE with the new OWNER's", r.strays(), 0);
        r.sell(0, 2);
        due("strays(), sold", r.strays(), 1);
        r.burn(2, 0, 0);
        due("strays(), a burning that brings nothing", r.strays(), 1);
        r.burn(1, 0, 0);
        due("strays(), burned", r.strays(), 3);
        r.sell(0, 3);
        r.burn(0, 0, 1);
        due("strays(), made into its OWNER's", r.strays(), 2);
        r.sell(2, 0);
        due("strays(), of another brand", r.strays(), 6);
        HideReader eight = Checks.told("herd a strokes 0;iron i strokes 1;beast s of a;beast t of a;beast u of a;beast v of a;beast w of a;beast x of a;beast y of a;beast z of a;");
        for (int b = 0; b < 8; b++) {
            eight.burn(b, 0, 0);
        }
        due("strays() of eight", eight.strays(), 255);
    }

    /** Promise 42: "The oldest AGE on a HIDE; NONE if nothing is on it, or there is none such". */
    private static void oldest() {
        HideReader r = Checks.told("herd a strokes 5;iron i strokes 0 11;beast x of a born 99;beast y of a;");
        due("oldest(0)", r.oldest(0), 99);
        due("oldest(1)", r.oldest(1), 0);
        r.burn(0, 0, 0);
        due("oldest(0), younger ones beside it", r.oldest(0), 99);
        r.season();
        due("oldest(0) a season later", r.oldest(0), 100);
        due("oldest(1) a season later", r.oldest(1), 1);
        r.clean(0);
        due("oldest(0) behind a cleaning", r.oldest(0), 0);
        for (int far : FAR) {
            due("oldest(" + far + ")", r.oldest(far), -1);
        }
        due("oldest(2), one behind", r.oldest(2), -1);
        due("oldest(0) of none", new HideReader().oldest(0), -1);
    }

    /** Promise 43: "behind n SEASONS (0 .. 60; no nights); NONE for another n". */
    private static void will() {
        HideReader r = aged("age < 10 or age = 60 or age = 65");
        int[][] want = {{0, 4}, {4, 4}, {5, 2}, {9, 2}, {10, 0}, {54, 0}, {55, 2}, {59, 0}, {60, 4}};
        for (int[] w : want) {
            due("will(" + w[0] + ")", r.will(w[0]), w[1]);
        }
        for (int n : new int[] {Integer.MIN_VALUE, -1, 61, 62, Integer.MAX_VALUE}) {
            due("will(" + n + ")", r.will(n), -1);
        }
        due("no nights", aged("scars = 2").will(60), 4);
        due("the season goes on", aged("season = 60").will(60), 4);
        due("the season of now", aged("season = 0").will(0), 4);
        due("will(0) of none", new HideReader().will(0), 0);
        due("will(60) of none", new HideReader().will(60), 0);
        due("will(61) of none", new HideReader().will(61), -1);
        HideReader later = aged("season = 7");
        later.season();
        later.season();
        due("behind two seasons and five", later.will(5), later.beast(0, 5) + later.beast(1, 5));
        due("behind two seasons and four", later.will(4), 0);
        due("nothing is done", later.about(4), 2);
    }

    /** Promise 44: "if each AGE were n (0 .. 99); NONE for another n". */
    private static void law() {
        HideReader r = aged("age = 0 or age = 99");
        due("law(0)", r.law(0), 4);
        due("law(1)", r.law(1), 0);
        due("law(98)", r.law(98), 0);
        due("law(99)", r.law(99), 4);
        for (int n : new int[] {Integer.MIN_VALUE, -1, 100, 101, Integer.MAX_VALUE}) {
            due("law(" + n + ")", r.law(n), -1);
        }
        due("law(50), the season stays", aged("season = 0 and age = 50").law(50), 4);
        due("law(3), born stays", aged("born = 5 and age = 3").law(3), 2);
        due("law(3), stroke and scars stay", aged("stroke = 1 and scars = 2").law(3), 2);
        due("law(0) of none", new HideReader().law(0), 0);
        due("law(100) of none", new HideReader().law(100), -1);
        due("nothing is done", r.age(0, 0), 5);
    }

    /** Promise 45: n 0 .. 4, part 0, 1; "in lowest terms (0 of 1); NONE if one can't be". */
    private static void odds() {
        for (int night = 0; night <= 100; night++) {
            HideReader r = Checks.told("night " + night + ";draw 7;");
            for (int n = 0; n <= 4; n++) {
                BigInteger up = BigInteger.valueOf(100 - night).pow(n);
                BigInteger low = BigInteger.valueOf(100).pow(n);
                BigInteger common = up.gcd(low);
                due("odds(" + n + ", 0) of " + night, r.odds(n, 0), up.divide(common).longValueExact());
                due("odds(" + n + ", 1) of " + night, r.odds(n, 1), low.divide(common).longValueExact());
            }
        }
        HideReader r = Checks.told("night 100;");
        due("no night at all, upper part", r.odds(0, 0), 1);
        due("no night at all, lower part", r.odds(0, 1), 1);
        due("burned for sure, upper part", r.odds(1, 0), 0);
        due("burned for sure, lower part", r.odds(1, 1), 1);
        for (int n : new int[] {Integer.MIN_VALUE, -1, 5, 6, Integer.MAX_VALUE}) {
            due("odds(" + n + ", 0)", r.odds(n, 0), -1);
            due("odds(" + n + ", 1)", r.odds(n, 1), -1);
        }
        for (int part : new int[] {Integer.MIN_VALUE, -1, 2, 3, Integer.MAX_VALUE}) {
            due("odds(1, " + part + ")", r.odds(1, part), -1);
        }
        HideReader beast = Checks.told("herd a strokes 0;beast x of a;night 30;draw 7;");
        beast.season();
        due("whatever the SEED is", beast.odds(2, 0), 49);
        due("whatever the SEED is", beast.odds(2, 1), 100);
        due("of a new object", new HideReader().odds(4, 0), 1);
        due("of a new object", new HideReader().odds(4, 1), 1);
    }

    private static String eight(String sort, String from, String to) {
        StringBuilder s = new StringBuilder();
        for (int i = 0; i < 8; i++) {
            s.append(sort).append(" ").append(sort.charAt(0)).append((char) ('a' + i)).append(from).append(i).append(to);
        }
        return s.toString();
    }

    /** Eight herds, eight beasts: the last counts like the first. */
    private static void asManyAsCanBe() {
        String herds = eight("herd", " strokes 11 ", ";");
        StringBuilder beasts = new StringBuilder();
        for (int i = 0; i < 8; i++) {
            beasts.append("beast b").append((char) ('a' + i)).append(" of h").append((char) ('a' + i)).append(" born ").append(i).append(";");
        }
        HideReader r = Checks.told(herds + "iron i strokes 0;iron j strokes 7;" + beasts + "shows age > 6;");
        due("will(0)", r.will(0), 2);
        due("will(6)", r.will(6), 14);
        due("law(7)", r.law(7), 16);
        due("law(6)", r.law(6), 0);
        due("untouched()", r.untouched(), Checks.bits(8, 9, 10));
        due("tells()", r.tells(), 0);
        due("strays()", r.strays(), 0);
        due("lowest()", r.lowest(), 255);
        due("highest()", r.highest(), 255);
        due("closed()", r.closed(), 1);
        due("safe()", r.safe(), 255);
        due("chain()", r.chain(), 1);
        due("useful()", r.useful(), 0);
        due("king(0)", r.king(0), 0);
        due("read(7)", r.read(7), 128);
        due("read(6)", r.read(6), 0);
        due("origins(7)", r.origins(7), 128);
        due("origins(0)", r.origins(0), 1);
        due("claim(7)", r.claim(7), 0);
        due("tempt(7, 0)", r.tempt(7, 0), -1);
        due("forge(7, 7)", r.forge(7, 7), 0);
        due("oldest(7)", r.oldest(7), 7);
        due("fades(7)", r.fades(7), -1);
        due("shared(7, 0)", r.shared(7, 0), 1);
        due("nearest, the last herd", r.nearest(Checks.bits(7, 11), 0), 7);
        due("raid(0, 7)", r.raid(0, 7), 2);
        lies(r, "raid(0, 7)", 0, 7);
        due("raid(6, 7)", r.raid(6, 7), 2);
        lies(r, "raid(6, 7)", 6, 7);
        due("fresh()", r.fresh(), 256);
        due("season()", r.season(), 0);
        due("sell(7, 0)", r.sell(7, 0), 7);
        due("claim(7), the last beast", r.claim(7), 128);
        due("burn(7, 0, 0)", r.burn(7, 0, 0), 1);
        due("strays(), the last beast", r.strays(), 128);
        due("tells(), two of eight", r.tells(), 0);
        due("clean(7)", r.clean(7), 1);
        due("brand(7)", r.brand(7), Checks.bits(7, 11));
        // The last herd is the one into which the others can be made, the last beast that which has half of them.
        HideReader last = Checks.told(herds.replace("strokes 11 7", "strokes 11 0 7") + "iron i strokes 0;iron j strokes 7;" + beasts);
        due("king(0), the last", last.king(0), 7);
        due("king(1), the last", last.king(1), 1);
        due("safe(), all but the first", last.safe(), 254);
        due("useful()", last.useful(), 2);
        due("tempt(0, 0), the last", last.tempt(0, 0), 7);
        due("chain()", last.chain(), 2);
        lies(last, "chain()", 0, 7);
        due("highest()", last.highest(), 254);
        due("lowest()", last.lowest(), 127);
        due("origins(7)", last.origins(7), 129);
    }

    /** Six irons by eight placements: as many burnings to choose from as can be. */
    private static void sixIronsInAllPlacements() {
        HideReader r = Checks.told("turns 4;mirror;herd a strokes 2;herd b strokes " + ALL_STROKES + ";herd c strokes 2 3;herd d strokes 2 0;"
            + "iron i strokes 0;iron j strokes 1;iron k strokes 6;iron l strokes 2;iron m strokes 3 7;iron n strokes 0 1 6 8 9 11;beast x of a;");
        due("all out of nothing", r.make(0, 4095), 4);
        due("forge(0, 1)", r.forge(0, 1), 4);
        // Two of n are the frame (without 4 and 5, then without 6 and 9); inside l brings 7 in its first turn, m then 3 and 10.
        lies(r, "forge(0, 1)", 3, 1, 4, 1, 5, 0, 5, 1);
        due("useful()", r.useful(), Checks.bits(0, 1, 2, 3));
        due("rows(0)", r.rows(0), 48 * 48);
        due("safe()", r.safe(), 2);
        due("king(0)", r.king(0), 1);
        Checks.feed(r, "herd a strokes 2;herd b strokes 2 3;iron i strokes 0;beast x of a;");
        r.valley();
        due("fewer irons and placements", r.make(4, 12), -1);
        due("forge(0, 1)", r.forge(0, 1), -1);
        due("useful()", r.useful(), 0);
        due("rows(0)", r.rows(0), 1);
        due("safe()", r.safe(), 3);
    }
}
