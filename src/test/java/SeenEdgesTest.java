/** The edges of what lies there, what is SEEN, the TIME, and what is told about it all: promises 46 to 52 and 55. */
public final class SeenEdgesTest {
    private static final Checks CHECKS = new Checks();
    // The first beast's hide at first is stroke 0; irons: i 1, j 1 2, k 3.
    private static final String IRONS = "iron i strokes 1;iron j strokes 1 2;iron k strokes 3;";
    private static final String TEXT = "herd a strokes 0;herd b strokes 5;" + IRONS + "beast x of a;beast y of b;";

    public static void main(String[] args) {
        lying();
        lyingStays();
        burningsAndStrokes();
        thirtySeen();
        withoutBeasts();
        withoutIrons();
        firstBeastAsAtFirst();
        firstAndSecondBurning();
        untelling();
        toldAndUntoldTimes();
        anyK();
        laterByAndUpTo();
        timeStays();
        sure();
        asking();
        placementsCount();
        about();
        aboutOtherNumbers();
        untoldIsAsNeverTold();
        CHECKS.close("SeenEdgesTest");
    }

    private static void due(String what, long got, long want) {
        CHECKS.due(what, got, want);
    }

    private static void due(String what, boolean got, boolean want) {
        CHECKS.due(what, got, want);
    }

    /** Promise 46: "The i-th number of what lies there; NONE if there is none such". */
    private static void lying() {
        HideReader r = Checks.told("herd a strokes 0;herd b strokes 0 1;herd c strokes 0 1 2 3 4;iron i strokes 1;iron j strokes 2;iron k strokes 3;iron l strokes 4;beast x of a;beast y of b;");
        CHECKS.lies(r, "at first");
        due("chain()", r.chain(), 3);
        CHECKS.lies(r, "behind chain()", 0, 1, 2);
        due("forge by 4", r.forge(0, 2), 4);
        CHECKS.lies(r, "behind forge", 0, 0, 1, 0, 2, 0, 3, 0);
        due("raid(0, 1)", r.raid(0, 1), 2);
        CHECKS.lies(r, "behind raid", 0, 1);
        for (int i : new int[] {Integer.MIN_VALUE, -2, 2, 3, 8, 16, 17, Integer.MAX_VALUE}) {
            due("lies(" + i + ")", r.lies(i), -1);
        }
        due("lies(0) of a new object", new HideReader().lies(0), -1);
        HideReader eight = Checks.told("herd a strokes 0;herd b strokes 0 1;herd c strokes 0 1 2;herd d strokes 0 1 2 3;herd e strokes 0 1 2 3 4;"
            + "herd f strokes 0 1 2 3 4 5;herd g strokes 0 1 2 3 4 5 6;herd h strokes 0 1 2 3 4 5 6 7;");
        due("chain() of eight", eight.chain(), 8);
        CHECKS.lies(eight, "behind chain() of eight", 0, 1, 2, 3, 4, 5, 6, 7);
        due("lies(7)", eight.lies(7), 7);
        due("lies(8)", eight.lies(8), -1);
    }

    /** It goes with the next one that lies there, or with a new VALLEY, not otherwise. */
    private static void lyingStays() {
        HideReader r = Checks.told(TEXT);
        r.raid(0, 1);
        CHECKS.lies(r, "behind raid", 0, 1);
        r.season();
        r.burn(0, 0, 0);
        r.undo();
        r.redo();
        r.sell(0, 1);
        r.clean(0);
        r.image(0);
        r.back(0);
        r.seen(1, 1, true);
        r.later(1);
        r.untell(0);
        r.end(0);
        r.feed(0, 0, 0, 0, 0);
        due("valley() of a FAULT", r.valley(), -1);
        CHECKS.lies(r, "behind many calls", 0, 1);
        r.end(0);
        due("valley()", r.valley(), 0);
        CHECKS.lies(r, "behind a new VALLEY");
    }

    /** Promise 47: "(a burning 1, 2; a STROKE 0 .. 11): its number; NONE, doing nothing, if one can't be". */
    private static void burningsAndStrokes() {
        HideReader r = Checks.told(TEXT);
        for (int burning : new int[] {Integer.MIN_VALUE, -1, 0, 3, 4, Integer.MAX_VALUE}) {
            due("seen(" + burning + ", 0, true)", r.seen(burning, 0, true), -1);
            due("sure(" + burning + ", 0)", r.sure(burning, 0), -1);
        }
        for (int stroke : new int[] {Integer.MIN_VALUE, -1, 12, 13, 32, Integer.MAX_VALUE}) {
            due("seen(1, " + stroke + ", true)", r.seen(1, stroke, true), -1);
            due("seen(2, " + stroke + ", false)", r.seen(2, stroke, false), -1);
        }
        due("nothing is SEEN", r.about(8), 0);
        due("all ROWS", r.rows(0), 9);
        int number = 0;
        for (int stroke = 0; stroke <= 11; stroke++) {
            due("seen(1, " + stroke + ", ..)", r.seen(1, stroke, stroke < 2), number++);
            due("seen(2, " + stroke + ", ..)", r.seen(2, stroke, stroke < 2), number++);
        }
        due("24 are SEEN", r.about(8), 24);
        due("ROWS: i twice", r.rows(0), 1);
    }

    /** "SEEN, 30 at most"; "there are 30". */
    private static void thirtySeen() {
        HideReader r = Checks.told(TEXT);
        for (int i = 0; i < 30; i++) {
            due("about(8)", r.about(8), i);
            due("seen " + i, r.seen(1, 1, true), i);
        }
        due("about(8)", r.about(8), 30);
        due("seen, the 31st", r.seen(1, 3, true), -1);
        due("it did nothing", r.rows(0), 6);
        due("untell(30)", r.untell(30), false);
        due("untell(29)", r.untell(29), true);
        due("those UNTOLD are among the 30", r.seen(1, 3, true), -1);
        due("about(8)", r.about(8), 30);
        Checks.feed(r, TEXT);
        r.valley();
        due("about(8) of a new VALLEY", r.about(8), 0);
        due("seen, from 0 on", r.seen(1, 3, true), 0);
        due("rows", r.rows(0), 3);
    }

    /** "or no BEASTS"; promise 50: "(0 without BEASTS)". */
    private static void withoutBeasts() {
        HideReader none = Checks.told("herd a strokes 0;" + IRONS);
        due("seen without beasts", none.seen(1, 0, true), -1);
        due("about(8)", none.about(8), 0);
        due("rows(0)", none.rows(0), 0);
        due("sure(1, 0)", none.sure(1, 0), -1);
        due("sure(2, 0)", none.sure(2, 0), -1);
        due("ask(0, 0)", none.ask(0, 0), -1);
        due("ask(1, 0)", none.ask(1, 0), -1);
        due("untell(0)", none.untell(0), false);
        due("later(1)", none.later(1), 1);
    }

    private static void withoutIrons() {
        HideReader none = Checks.told("herd a strokes 0;beast x of a;");
        due("rows(0)", none.rows(0), 0);
        due("sure(1, 0)", none.sure(1, 0), -1);
        due("ask(0, 0)", none.ask(0, 0), -1);
        due("seen without irons", none.seen(2, 11, false), 0);
        due("about(8)", none.about(8), 1);
        due("untell(0)", none.untell(0), true);
    }

    /** "of the first BEAST (its HIDE as at first)". */
    private static void firstBeastAsAtFirst() {
        HideReader r = Checks.told("herd b strokes 5;herd a strokes 0;" + IRONS + "beast x of a;beast y of b;");
        r.burn(0, 2, 0);
        r.sell(0, 0);
        r.season();
        due("seen: stroke 0 behind the first", r.seen(1, 0, true), 0);
        due("all ROWS", r.rows(0), 9);
        due("seen: no stroke 3 behind the second", r.seen(2, 3, false), 1);
        due("ROWS without k", r.rows(0), 4);
        due("seen: stroke 5", r.seen(1, 5, true), 2);
        due("no ROWS", r.rows(0), 0);
    }

    /** "behind the first, the second one a STROKE was on it, or was not". */
    private static void firstAndSecondBurning() {
        int[][] want = {
            // burning, stroke, is, ROWS of the nine
            {1, 1, 1, 6}, {1, 1, 0, 3}, {1, 2, 1, 3}, {1, 2, 0, 6}, {1, 3, 1, 3}, {1, 3, 0, 6},
            {2, 1, 1, 8}, {2, 1, 0, 1}, {2, 2, 1, 5}, {2, 2, 0, 4}, {2, 3, 1, 5}, {2, 3, 0, 4},
            {1, 0, 1, 9}, {1, 0, 0, 0}, {2, 0, 1, 9}, {2, 0, 0, 0}, {1, 11, 1, 0}, {1, 11, 0, 9}, {2, 11, 1, 0}, {2, 11, 0, 9}};
        for (int[] w : want) {
            HideReader r = Checks.told(TEXT);
            due("seen", r.seen(w[0], w[1], w[2] == 1), 0);
            due("rows by seen(" + w[0] + ", " + w[1] + ", " + w[2] + ")", r.rows(0), w[3]);
        }
        HideReader both = Checks.told(TEXT);
        both.seen(1, 3, false);
        both.seen(2, 3, true);
        due("rows: k at second only", both.rows(0), 2);
        due("sure(2, 0)", both.sure(2, 0), 2);
        due("sure(1, 0)", both.sure(1, 0), -2);
        HideReader against = Checks.told(TEXT);
        against.seen(1, 1, true);
        against.seen(1, 1, false);
        due("rows by what can't be both", against.rows(0), 0);
        HideReader gone = Checks.told(TEXT);
        gone.seen(1, 1, true);
        gone.seen(2, 1, false);
        due("rows: none goes", gone.rows(0), 0);
    }

    /** Promise 48: "true; false if it is so already, or there is none such". */
    private static void untelling() {
        HideReader r = Checks.told(TEXT);
        due("untell(0) of none", r.untell(0), false);
        r.seen(1, 1, true);
        r.seen(1, 2, true);
        for (int s : new int[] {Integer.MIN_VALUE, -1, 2, 3, 30, Integer.MAX_VALUE}) {
            due("untell(" + s + ")", r.untell(s), false);
        }
        due("rows(0)", r.rows(0), 3);
        due("untell(1), the last", r.untell(1), true);
        due("rows(0)", r.rows(0), 6);
        due("untell(1) again", r.untell(1), false);
        r.later(10);
        due("untell(1) later", r.untell(1), false);
        due("rows(0), it stays UNTOLD at 0", r.rows(0), 6);
        due("untell(0)", r.untell(0), true);
        due("about(8)", r.about(8), 2);
        due("untell of a new object", new HideReader().untell(0), false);
    }

    /** "TOLD at k or before, not UNTOLD at k or before"; "UNTOLD at a later one or the same". */
    private static void toldAndUntoldTimes() {
        HideReader r = Checks.told(TEXT);
        r.later(5);
        r.seen(1, 1, true);
        r.later(5);
        r.untell(0);
        r.seen(1, 2, true);
        r.untell(1);
        due("rows(4), not TOLD yet", r.rows(4), 9);
        due("rows(5), TOLD", r.rows(5), 6);
        due("rows(9), not UNTOLD yet", r.rows(9), 6);
        due("rows(10), UNTOLD, and UNTOLD when TOLD", r.rows(10), 9);
        due("rows(11)", r.rows(11), 9);
        r.seen(1, 3, true);
        due("rows(9), known before", r.rows(9), 6);
        due("rows(10), TOLD now", r.rows(10), 3);
        due("sure(1, 9)", r.sure(1, 9), -2);
        due("sure(1, 10)", r.sure(1, 10), 2);
        due("ask(1, 9)", r.ask(1, 9), 2);
        due("ask(1, 10)", r.ask(1, 10), 1);
        due("ask(1, 4)", r.ask(1, 4), 3);
    }

    private static void anyK() {
        HideReader r = Checks.told(TEXT);
        r.seen(1, 1, true);
        for (int k : new int[] {Integer.MIN_VALUE, -100000, -1}) {
            due("rows(" + k + ")", r.rows(k), 9);
            due("sure(1, " + k + ")", r.sure(1, k), -2);
            due("ask(0, " + k + ")", r.ask(0, k), 1);
        }
        for (int k : new int[] {0, 1, 100000, 100001, Integer.MAX_VALUE}) {
            due("rows(" + k + ")", r.rows(k), 6);
            due("ask(0, " + k + ")", r.ask(0, k), 2);
        }
    }

    /** Promise 49: "(0 .. 1000): the TIME; NONE, doing nothing, for another number, or if it would be above 100,000". */
    private static void laterByAndUpTo() {
        HideReader r = new HideReader();
        due("later(0)", r.later(0), 0);
        for (int by : new int[] {Integer.MIN_VALUE, -1000, -1, 1001, 1002, 100000, Integer.MAX_VALUE}) {
            due("later(" + by + ")", r.later(by), -1);
            due("the TIME", r.about(9), 0);
        }
        due("later(1)", r.later(1), 1);
        for (int i = 1; i <= 99; i++) {
            due("later(1000)", r.later(1000), 1 + 1000 * i);
        }
        due("later(1000), one above", r.later(1000), -1);
        due("the TIME", r.about(9), 99001);
        due("later(999)", r.later(999), 100000);
        due("later(0)", r.later(0), 100000);
        due("later(1)", r.later(1), -1);
        due("later(1000)", r.later(1000), -1);
        due("the TIME", r.about(9), 100000);
    }

    /** Promise 4: "the TIME stays". */
    private static void timeStays() {
        HideReader r = Checks.told(TEXT);
        r.later(7);
        r.seen(1, 1, true);
        Checks.feed(r, TEXT);
        due("valley()", r.valley(), 2);
        due("the TIME", r.about(9), 7);
        due("nothing is SEEN", r.about(8), 0);
        due("rows(7)", r.rows(7), 9);
        due("seen", r.seen(1, 2, true), 0);
        due("rows(6)", r.rows(6), 9);
        due("rows(7)", r.rows(7), 3);
        r.undo();
        r.season();
        r.image(0);
        r.back(0);
        due("the TIME", r.about(9), 7);
        due("what is SEEN stays", r.rows(7), 3);
    }

    /** Promise 51: "the IRON; -2 if it is not the same in all; NONE if there are no ROWS, or there is no such burning". */
    private static void sure() {
        HideReader one = Checks.told("herd a strokes 0;iron i strokes 1;beast x of a;");
        due("sure(1, 0) of one iron", one.sure(1, 0), 0);
        due("sure(2, 0) of one iron", one.sure(2, 0), 0);
        due("ask(0, 0) of one iron", one.ask(0, 0), 1);
        due("ask(1, 0) of one iron", one.ask(1, 0), 1);
        HideReader r = Checks.told(TEXT);
        due("sure(1, 0)", r.sure(1, 0), -2);
        due("sure(2, 0)", r.sure(2, 0), -2);
        r.seen(2, 1, false);
        due("sure(1, 0), k twice", r.sure(1, 0), 2);
        due("sure(2, 0), k twice", r.sure(2, 0), 2);
        r.seen(1, 3, false);
        due("rows(0)", r.rows(0), 0);
        due("sure(1, 0) without ROWS", r.sure(1, 0), -1);
        due("sure(2, 0) without ROWS", r.sure(2, 0), -1);
        due("sure(3, 0) without ROWS", r.sure(3, 0), -1);
        HideReader same = Checks.told("herd a strokes 0;iron i strokes 1;iron j strokes 1;beast x of a;");
        due("two irons alike are not the same", same.sure(1, 0), -2);
        HideReader six = Checks.told("herd a strokes 0;iron i strokes 1;iron j strokes 2;iron k strokes 3;iron l strokes 4;iron m strokes 5;iron n strokes 6;beast x of a;");
        due("rows of six", six.rows(0), 36);
        six.seen(1, 6, true);
        due("sure(1, 0), the last iron", six.sure(1, 0), 5);
        due("ask(0, 0)", six.ask(0, 0), 2);
        due("ask(1, 0)", six.ask(1, 0), 1);
    }

    /** Promise 52: "the fewest of these at the most; of like ones the first"; "NONE if there are no ROWS, or for another what". */
    private static void asking() {
        HideReader r = Checks.told(TEXT);
        for (int what : new int[] {Integer.MIN_VALUE, -1, 2, 3, Integer.MAX_VALUE}) {
            due("ask(" + what + ", 0)", r.ask(what, 0), -1);
        }
        due("ask(0, 0), alike", r.ask(0, 0), 1);
        due("ask(1, 0), alike", r.ask(1, 0), 3);
        r.seen(1, 1, true);
        due("ask(0, 0), the second leaves fewer", r.ask(0, 0), 2);
        due("ask(1, 0), the second leaves fewer", r.ask(1, 0), 2);
        r.seen(1, 1, false);
        due("ask(0, 0) without ROWS", r.ask(0, 0), -1);
        due("ask(1, 0) without ROWS", r.ask(1, 0), -1);
        // Left: i k, j k, and k first with any: by the first burning 3, 1, 1; by the second 1, 1, 3.
        HideReader like = Checks.told(TEXT);
        like.seen(2, 3, true);
        due("rows(0)", like.rows(0), 5);
        due("ask(0, 0), of like ones the first", like.ask(0, 0), 1);
        due("ask(1, 0), of like ones the first", like.ask(1, 0), 3);
        like.seen(1, 3, false);
        due("ask(0, 0), the first leaves fewer", like.ask(0, 0), 1);
        due("ask(1, 0), the first leaves fewer", like.ask(1, 0), 1);
    }

    /** "each in some PLACEMENT, which is not known": each counts, also where two bring the same. */
    private static void placementsCount() {
        HideReader r = Checks.told("turns 4;mirror;herd a strokes 0;iron i strokes 2;iron c strokes 2 3 7 10;beast x of a;");
        due("rows(0)", r.rows(0), 256);
        r.seen(1, 3, false);
        due("rows: i, in six of eight, then any", r.rows(0), 96);
        due("sure(1, 0)", r.sure(1, 0), 0);
        due("ask(0, 0)", r.ask(0, 0), 2);
        due("ask(1, 0)", r.ask(1, 0), 48);
        r.seen(2, 3, false);
        due("rows: i twice", r.rows(0), 36);
        HideReader most = Checks.told("turns 4;mirror;herd a strokes 0;iron i strokes 2;iron j strokes 0;iron k strokes 1;iron l strokes 3;iron m strokes 4;iron n strokes 5;beast x of a;");
        due("rows of 48 by 48", most.rows(0), 2304);
        due("ask(1, 0) of 48 by 48", most.ask(1, 0), 384);
    }

    /** Promise 55, each what, when there is something to tell. */
    private static void about() {
        HideReader r = Checks.told(TEXT + "herd c strokes 0 5;turns 2;mirror;shows (age) + 1;night 45;draw 7;");
        r.season();
        r.season();
        r.season();
        r.undo();
        r.chain();
        r.later(9);
        r.seen(1, 1, true);
        r.seen(1, 1, true);
        r.seen(1, 1, true);
        r.untell(1);
        Checks.feed(r, "?");
        // SEEDS: 30, 181, 868, 987.
        int[] want = {3, 3, 2, 4, 2, 987, 2, 1, 3, 9, 1, 3, 2, 45, 2};
        for (int what = 0; what < want.length; what++) {
            due("about(" + what + ")", r.about(what), want[what]);
        }
    }

    private static void aboutOtherNumbers() {
        int[] first = {0, 0, 0, 1, 0, 0, 0, 0, 0, 0, 0, 0, 0, 0, 1};
        HideReader r = new HideReader();
        for (int what = 0; what < first.length; what++) {
            due("about(" + what + ") of a new object", r.about(what), first[what]);
        }
        for (int what : new int[] {Integer.MIN_VALUE, -2, -1, 15, 16, 100, Integer.MAX_VALUE}) {
            due("about(" + what + ")", r.about(what), -1);
            due("about(" + what + ") of a VALLEY", Checks.told(TEXT).about(what), -1);
        }
    }

    /** Each of the twelve strokes, seen on the HIDE and seen not on it, TOLD, asked for, UNTOLD. */
    private static void untoldIsAsNeverTold() {
        for (int stroke = 0; stroke < 12; stroke++) {
            for (int burning = 1; burning <= 2; burning++) {
                HideReader r = Checks.told("herd a strokes 4;iron i strokes 1;iron j strokes 1 2;iron k strokes 3;beast x of a;");
                due("rows", r.rows(0), 9);
                due("seen, not on it", r.seen(burning, stroke, false), 0);
                int without = r.rows(0);
                due("untell", r.untell(0), true);
                due("rows, UNTOLD", r.rows(0), 9);
                due("seen, on it", r.seen(burning, stroke, true), 1);
                due("rows with and without it are all", without + r.rows(0), 9);
                due("untell", r.untell(1), true);
                due("rows, UNTOLD", r.rows(0), 9);
            }
        }
    }
}
