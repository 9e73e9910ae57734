import java.util.Random;

/** Promise 4: behind valley() all is as told, whatever was before; only the TIME stays. */
public final class ValleyEdgesTest {
    private static final Checks CHECKS = new Checks();
    private static final String FULL = "turns 4;mirror;" + many("herd", 8) + many("iron", 6) + many("beast", 8) + "shows not (age < 3) or not (1) + 1 and scars;night 77;draw 345;";

    public static void main(String[] args) {
        allIsAsTold();
        smallBehindFull();
        randomBehindRandom();
        howManyHerds();
        CHECKS.close("ValleyEdgesTest");
    }

    private static String many(String sort, int count) {
        StringBuilder s = new StringBuilder();
        for (int i = 0; i < count; i++) {
            s.append(sort).append(" n").append((char) ('a' + i));
            s.append(sort.equals("beast") ? " of n" + (char) ('a' + i) + " born " + (i + 3) + ";" : " strokes " + i + " " + (i + 1) + " 11;");
        }
        return s.toString();
    }

    /** Something of each sort that a new VALLEY ends. */
    private static void use(HideReader r) {
        r.season();
        r.burn(0, 0, 0);
        r.sell(0, 1);
        r.season();
        r.image(0);
        r.image(2);
        r.clean(0);
        r.undo();
        r.seen(1, 1, true);
        r.seen(2, 1, false);
        r.seen(1, 0, false);
        r.untell(0);
        r.fresh();
        r.safe();
        r.make(0, 4095);
        r.make(1, 7);
        r.fades(0);
        r.chain();
    }

    private static void behaveAlike(String what, HideReader used, HideReader fresh) {
        CHECKS.due("what is shown of " + what, shown(used), shown(fresh));
        CHECKS.due("what is asked of " + what, Autopsy.questions(used), Autopsy.questions(fresh));
        CHECKS.due("all of " + what, Autopsy.of(used), Autopsy.of(fresh));
    }

    private static String shown(HideReader r) {
        StringBuilder s = new StringBuilder();
        for (int what = 0; what < 15; what++) {
            s.append(r.about(what)).append(' ');
        }
        return s.append(r.fault(0)).append(' ').append(r.fault(1)).toString();
    }

    private static void allIsAsTold() {
        HideReader r = Checks.told(FULL);
        use(r);
        r.later(1);
        Checks.feed(r, FULL);
        CHECKS.due("valley()", r.valley(), 8);
        int[] about = {8, 6, 8, 8, 0, 345, 0, 0, 0, 1, 0, 7, 0, 77, 4};
        for (int what = 0; what < about.length; what++) {
            CHECKS.due("about(" + what + ")", r.about(what), about[what]);
        }
        for (int b = 0; b < 8; b++) {
            CHECKS.due("HIDE " + b, r.beast(b, 0), r.brand(b));
            CHECKS.due("OWNER " + b, r.beast(b, 2), b);
            CHECKS.due("AGE " + b, r.age(b, 11), b + 3);
            CHECKS.due("AGE " + b, r.age(b, b), b + 3);
        }
        CHECKS.due("lies(0)", r.lies(0), -1);
        CHECKS.due("undo", r.undo(), false);
        CHECKS.due("redo", r.redo(), false);
        CHECKS.due("untell(0)", r.untell(0), false);
        for (int box = 0; box < 3; box++) {
            CHECKS.due("back(" + box + ")", r.back(box), -1);
        }
    }

    private static void smallBehindFull() {
        String[] small = {"", "mirror;", "turns 2;", "herd a strokes 3;", "herd a strokes 3;beast b of a;", "herd a strokes 0;herd b strokes 0 1;iron i strokes 1;beast x of a;",
            "turns 2;herd a strokes 0;herd b strokes 0 4;iron i strokes 1;beast x of a;beast y of b;shows age;", "iron i strokes 0;night 5;", FULL};
        for (String text : small) {
            HideReader used = Checks.told(FULL);
            use(used);
            Checks.feed(used, text);
            used.valley();
            behaveAlike(text.isEmpty() ? "an empty text" : text, used, Checks.told(text));
        }
    }

    private static void randomBehindRandom() {
        for (int seed = 0; seed < 150; seed++) {
            TextMaker texts = new TextMaker(new Random(seed));
            HideReader used = Checks.told(texts.right());
            use(used);
            used.later(seed % 3);
            String text = texts.right();
            Checks.feed(used, text);
            used.valley();
            HideReader fresh = new HideReader();
            fresh.later(seed % 3);
            Checks.feed(fresh, text);
            fresh.valley();
            behaveAlike(text, used, fresh);
        }
    }

    /** "how many HERDS; NONE: a FAULT". */
    private static void howManyHerds() {
        for (int n = 0; n <= 8; n++) {
            HideReader r = new HideReader();
            Checks.feed(r, many("herd", n) + many("iron", 6 - n / 2));
            CHECKS.due("valley() of " + n, r.valley(), n);
            Checks.feed(r, many("herd", n) + "x");
            CHECKS.due("valley() of " + n + " and a FAULT", r.valley(), -1);
            CHECKS.due("HERDS stay", r.about(0), n);
            CHECKS.due("the TAPE stays", r.about(10), many("herd", n).length() + 1);
            r.end(many("herd", n).length());
            CHECKS.due("valley() without the FAULT", r.valley(), n);
            CHECKS.due("the TAPE is empty then", r.about(10), 0);
            CHECKS.due("valley() once more, of nothing", r.valley(), 0);
        }
    }
}
