import java.util.function.Supplier;
import java.util.function.ToLongFunction;

/**
 * Every call that is refused: what it answers, and that all that other calls show behind it is as if it had not been.
 * Calls that only ask must do nothing, too.
 */
public final class RefusedTest {
    private static final Checks CHECKS = new Checks();
    private static final int LEAST = Integer.MIN_VALUE;
    private static final int GREATEST = Integer.MAX_VALUE;
    private static final String TEXT = "turns 2;mirror;herd a strokes 0;herd b strokes 0 1;herd c strokes 0 1 2;herd d strokes 7;iron i strokes 1;iron j strokes 2;iron k strokes 10;"
        + "beast x of a born 4;beast y of b;beast z of d born 9;night 45;draw 7;shows age < 8 or stroke = 0;";

    public static void main(String[] args) {
        feedAndEnd();
        faults();
        acts();
        undoAndRedo();
        seenAndTime();
        boxes();
        asked();
        askedForNone();
        rowsThatLie();
        newObject();
        CHECKS.close("RefusedTest");
    }

    /** Acts kept and taken back, seen ones (one UNTOLD), boxes 0 and 2 kept, numbers lying there, bytes on the TAPE. */
    private static HideReader lively() {
        HideReader r = Checks.told(TEXT);
        r.burn(0, 0, 0);
        r.season();
        r.image(0);
        r.sell(1, 3);
        r.later(3);
        r.seen(1, 1, true);
        r.later(2);
        r.seen(2, 10, false);
        r.seen(2, 2, true);
        r.untell(1);
        r.burn(2, 1, 1);
        r.season();
        r.image(2);
        r.undo();
        r.undo();
        r.chain();
        Checks.feed(r, "herd q strokes 3;mirror");
        return r;
    }

    private static void alike(String what, Supplier<HideReader> maker, ToLongFunction<HideReader> call, long answer) {
        HideReader asked = maker.get();
        CHECKS.due(what, call.applyAsLong(asked), answer);
        CHECKS.due("all behind " + what, Autopsy.of(asked), Autopsy.of(maker.get()));
    }

    private static void refused(String what, ToLongFunction<HideReader> call) {
        alike(what, RefusedTest::lively, call, -1);
    }

    private static void refusedFlag(String what, ToLongFunction<HideReader> call) {
        alike(what, RefusedTest::lively, call, 0);
    }

    private static void asks(String what, ToLongFunction<HideReader> call) {
        HideReader asked = lively();
        long answer = call.applyAsLong(asked);
        CHECKS.due(what + " answers", answer != -1, true);
        CHECKS.due("all behind " + what, Autopsy.of(asked), Autopsy.of(lively()));
    }

    private static long flag(boolean is) {
        return is ? 1 : 0;
    }

    private static void feedAndEnd() {
        for (int n : new int[] {1581, 1590, 1599, 1600}) {
            alike("feed onto " + n, () -> tapeOf(n), r -> r.feed(0x6d697272, 0x6f723b20, 0x3f3f3f3f, 0, -1), -1);
        }
        HideReader room = tapeOf(1580);
        CHECKS.due("feed onto 1580", room.feed(0x20202020, 0x20202020, 0x20202020, 0x20202020, 0x20202020), 1600);
        for (int n : new int[] {LEAST, -20, -1, 24, 25, 1600, GREATEST}) {
            refused("end(" + n + ")", r -> r.end(n));
        }
        alike("end(23), all of it", RefusedTest::lively, r -> r.end(23), 23);
        CHECKS.due("end(0)", lively().end(0), 0);
        CHECKS.due("end(22)", lively().end(22), 22);
        alike("end(-1) of a new object", HideReader::new, r -> r.end(-1), -1);
        alike("end(1) of a new object", HideReader::new, r -> r.end(1), -1);
        alike("end(0) of a new object", HideReader::new, r -> r.end(0), 0);
    }

    private static HideReader tapeOf(int n) {
        HideReader r = Checks.told(TEXT);
        for (int i = 0; i < 80; i++) {
            r.feed(0x20202020, 0x20202020, 0x20202020, 0x20202020, 0x20202020);
        }
        r.end(n);
        return r;
    }

    /** Promise 4: "NONE: a FAULT (all stays)". */
    private static void faults() {
        String[] texts = {"?", "turns", "turns 3;", "herd a strokes 0;herd a strokes 1;", "beast z of z;", TEXT + "turns 2;", TEXT + "herd zz strokes 0 0;",
            "turns 4;night 9;draw 9;shows 0;herd e strokes 9;iron e strokes 9;beast e of e;" + "shows 1;"};
        for (String text : texts) {
            Supplier<HideReader> fed = () -> {
                HideReader r = lively();
                r.end(0);
                Checks.feed(r, text);
                return r;
            };
            HideReader asked = fed.get();
            CHECKS.due("valley() of " + text, asked.valley(), -1);
            int kind = asked.fault(0);
            int place = asked.fault(1);
            CHECKS.due("a fault of " + text, kind > 0 && place >= 0, true);
            // The fault itself is all that shows.
            String behind = Autopsy.of(asked).replaceFirst("fault " + kind + " " + place, "fault 0 -1");
            CHECKS.due("all behind valley() of " + text, behind, Autopsy.of(fed.get()));
        }
    }

    private static void acts() {
        for (int far : new int[] {LEAST, -1, 3, 8, GREATEST}) {
            refused("burn(" + far + ", 0, 0)", r -> r.burn(far, 0, 0));
            refused("burn(0, " + far + ", 0)", r -> r.burn(0, far, 0));
            refused("sell(" + far + ", 0)", r -> r.sell(far, 0));
            refused("clean(" + far + ")", r -> r.clean(far));
        }
        for (int far : new int[] {LEAST, -1, 4, 8, GREATEST}) {
            refused("burn(0, 0, " + far + ")", r -> r.burn(0, 0, far));
            refused("sell(0, " + far + ")", r -> r.sell(0, far));
        }
        refused("sell to its OWNER", r -> r.sell(0, 0));
        refused("sell to its OWNER by a sale", r -> r.sell(1, 3));
        Supplier<HideReader> old = () -> {
            HideReader r = Checks.told(TEXT);
            for (int i = 0; i < 999; i++) {
                r.season();
            }
            r.clean(0);
            r.clean(1);
            r.undo();
            return r;
        };
        alike("season() behind 999", old, HideReader::season, -1);
    }

    /** Promises 16, 17: "false if there is none". */
    private static void undoAndRedo() {
        Supplier<HideReader> fresh = () -> Checks.told(TEXT);
        alike("undo() without ACTS", fresh, r -> flag(r.undo()), 0);
        alike("redo() without ACTS", fresh, r -> flag(r.redo()), 0);
        Supplier<HideReader> behindBack = () -> {
            HideReader r = lively();
            r.back(0);
            return r;
        };
        alike("undo() behind back", behindBack, r -> flag(r.undo()), 0);
        alike("redo() behind back", behindBack, r -> flag(r.redo()), 0);
        Supplier<HideReader> allUndone = () -> {
            HideReader r = lively();
            while (r.about(6) > 0) {
                r.undo();
            }
            return r;
        };
        alike("undo() when all is undone", allUndone, r -> flag(r.undo()), 0);
        Supplier<HideReader> allRedone = () -> {
            HideReader r = lively();
            r.redo();
            r.redo();
            return r;
        };
        alike("redo() when all is redone", allRedone, r -> flag(r.redo()), 0);
        alike("undo() and redo()", RefusedTest::lively, r -> flag(r.undo() && r.redo()), 1);
        alike("redo() and undo()", RefusedTest::lively, r -> flag(r.redo() && r.undo()), 1);
    }

    private static void seenAndTime() {
        for (int far : new int[] {LEAST, -1, 0, 3, GREATEST}) {
            refused("seen(" + far + ", 0, true)", r -> r.seen(far, 0, true));
        }
        for (int far : new int[] {LEAST, -1, 12, 13, GREATEST}) {
            refused("seen(1, " + far + ", false)", r -> r.seen(1, far, false));
        }
        for (int far : new int[] {LEAST, -1, 3, 30, GREATEST}) {
            refusedFlag("untell(" + far + ")", r -> flag(r.untell(far)));
        }
        refusedFlag("untell(1) again", r -> flag(r.untell(1)));
        for (int far : new int[] {LEAST, -1, 1001, 100000, GREATEST}) {
            refused("later(" + far + ")", r -> r.later(far));
        }
        alike("later(0)", RefusedTest::lively, r -> r.later(0), 5);
        Supplier<HideReader> thirty = () -> {
            HideReader r = lively();
            for (int i = 3; i < 30; i++) {
                r.seen(1, 9, false);
            }
            return r;
        };
        alike("seen, the 31st", thirty, r -> r.seen(1, 1, false), -1);
        alike("seen without beasts", () -> Checks.told("herd a strokes 0;iron i strokes 1;"), r -> r.seen(1, 1, true), -1);
        Supplier<HideReader> late = () -> {
            HideReader r = lively();
            for (int i = 0; i < 99; i++) {
                r.later(1000);
            }
            return r;
        };
        alike("later(996) beyond 100,000", late, r -> r.later(996), -1);
        CHECKS.due("later(995) up to 100,000", late.get().later(995), 100000);
    }

    private static void boxes() {
        for (int far : new int[] {LEAST, -1, 3, 4, GREATEST}) {
            refused("image(" + far + ")", r -> r.image(far));
            refused("back(" + far + ")", r -> r.back(far));
        }
        refused("back(1) of nothing", r -> r.back(1));
    }

    /** "(By what is now; nothing is done.)" */
    private static void asked() {
        asks("about", r -> r.about(3));
        asks("fault", r -> r.fault(0));
        asks("brand", r -> r.brand(1));
        asks("iron", r -> r.iron(2));
        for (int what = 0; what < 6; what++) {
            int w = what;
            asks("beast what " + what, r -> r.beast(0, w));
        }
        asks("age", r -> r.age(0, 0));
        asks("placed", r -> r.placed(5, 3));
        asks("under", r -> r.under(1, 3));
        asks("make", r -> r.make(1, 7));
        asks("lowest", HideReader::lowest);
        asks("highest", HideReader::highest);
        asks("fresh", HideReader::fresh);
        asks("origins", r -> r.origins(0));
        asks("read", r -> r.read(0));
        asks("claim", r -> r.claim(2));
        asks("safe", HideReader::safe);
        asks("king 0", r -> r.king(0));
        asks("king 1", r -> r.king(1));
        asks("tempt 0", r -> r.tempt(1, 0));
        asks("tempt 1", r -> r.tempt(1, 1));
        asks("useful", HideReader::useful);
        asks("nearest 0", r -> r.nearest(9, 0));
        asks("nearest 1", r -> r.nearest(9, 1));
        asks("shared", r -> r.shared(1, 2));
        asks("fades", r -> r.fades(2));
        asks("twins", HideReader::twins);
        asks("untouched", HideReader::untouched);
        asks("tells", HideReader::tells);
        asks("closed", HideReader::closed);
        asks("faces", r -> r.faces(9));
        asks("norm", r -> r.norm(9));
        asks("strays", HideReader::strays);
        asks("oldest", r -> r.oldest(0));
        asks("will", r -> r.will(60));
        asks("law", r -> r.law(0));
        asks("odds", r -> r.odds(4, 1));
        asks("lies", r -> r.lies(0));
        asks("rows", r -> r.rows(5));
        asks("sure", r -> r.sure(1, 5));
        asks("ask 0", r -> r.ask(0, 5));
        asks("ask 1", r -> r.ask(1, 4));
    }

    /** What can't be is asked for: NONE, and nothing is done. */
    private static void askedForNone() {
        for (int far : new int[] {LEAST, -1, GREATEST}) {
            int above = far == -1 ? 4 : far;
            for (int herd : new int[] {far, above}) {
                refused("brand(" + herd + ")", r -> r.brand(herd));
                refused("claim(" + herd + ")", r -> r.claim(herd));
                refused("shared(0, " + herd + ")", r -> r.shared(0, herd));
                refused("shared(" + herd + ", 0)", r -> r.shared(herd, 0));
            }
            int behind = far == -1 ? 3 : far;
            for (int one : new int[] {far, behind}) {
                refused("iron(" + one + ")", r -> r.iron(one));
                refused("beast(" + one + ", 0)", r -> r.beast(one, 0));
                refused("age(" + one + ", 0)", r -> r.age(one, 0));
                refused("origins(" + one + ")", r -> r.origins(one));
                refused("read(" + one + ")", r -> r.read(one));
                refused("tempt(" + one + ", 0)", r -> r.tempt(one, 0));
                refused("fades(" + one + ")", r -> r.fades(one));
                refused("oldest(" + one + ")", r -> r.oldest(one));
            }
            int other = far == -1 ? 2 : far;
            for (int what : new int[] {far, other}) {
                refused("king(" + what + ")", r -> r.king(what));
                refused("tempt(0, " + what + ")", r -> r.tempt(0, what));
                refused("nearest(0, " + what + ")", r -> r.nearest(0, what));
                refused("fault(" + what + ")", r -> r.fault(what));
                refused("odds(1, " + what + ")", r -> r.odds(1, what));
                refused("ask(" + what + ", 5)", r -> r.ask(what, 5));
            }
            int mark = far == -1 ? 4096 : far;
            for (int m : new int[] {far, mark}) {
                refused("placed(" + m + ", 0)", r -> r.placed(m, 0));
                refused("under(" + m + ", 0)", r -> r.under(m, 0));
                refused("under(0, " + m + ")", r -> r.under(0, m));
                refused("make(" + m + ", 0)", r -> r.make(m, 0));
                refused("make(0, " + m + ")", r -> r.make(0, m));
                refused("nearest(" + m + ", 0)", r -> r.nearest(m, 0));
                refused("faces(" + m + ")", r -> r.faces(m));
                refused("norm(" + m + ")", r -> r.norm(m));
            }
            refused("placed(0, " + above + ")", r -> r.placed(0, above));
            refused("beast(0, " + (far == -1 ? 6 : far) + ")", r -> r.beast(0, far == -1 ? 6 : far));
            refused("age(0, " + (far == -1 ? 12 : far) + ")", r -> r.age(0, far == -1 ? 12 : far));
            refused("will(" + (far == -1 ? 61 : far) + ")", r -> r.will(far == -1 ? 61 : far));
            refused("law(" + (far == -1 ? 100 : far) + ")", r -> r.law(far == -1 ? 100 : far));
            refused("odds(" + (far == -1 ? 5 : far) + ", 0)", r -> r.odds(far == -1 ? 5 : far, 0));
            refused("lies(" + behind + ")", r -> r.lies(behind));
            refused("sure(" + behind + ", 5)", r -> r.sure(behind, 5));
            refused("about(" + (far == -1 ? 15 : far) + ")", r -> r.about(far == -1 ? 15 : far));
            refused("will(" + far + ")", r -> r.will(far));
            refused("law(" + far + ")", r -> r.law(far));
            refused("odds(" + far + ", 1)", r -> r.odds(far, 1));
            refused("lies(" + far + ")", r -> r.lies(far));
            refused("about(" + far + ")", r -> r.about(far));
        }
        refused("make(3, 1)", r -> r.make(3, 1));
        refused("tempt(2, 0), none", r -> r.tempt(2, 0));
    }

    /** forge, chain and raid put something there and do nothing else; refused, they leave nothing there. */
    private static void rowsThatLie() {
        lie("chain()", HideReader::chain, 3, 0, 1, 2);
        lie("forge by 1", r -> r.forge(1, 2), 1, 1, 0);
        lie("forge by 0", r -> r.forge(1, 1), 0);
        lie("forge by none", r -> r.forge(1, 0), -1);
        lie("forge(3, 0)", r -> r.forge(3, 0), -1);
        lie("forge(-1, 0)", r -> r.forge(-1, 0), -1);
        lie("forge(0, 4)", r -> r.forge(0, 4), -1);
        lie("forge(0, -1)", r -> r.forge(0, -1), -1);
        // y is b's by 0 (10) and c's by 1 (9), the others are nobody's: one of the two has y, or both do.
        lie("raid(1, 2)", r -> r.raid(1, 2), 5, 0, 1);
        lie("raid(0, 0)", r -> r.raid(0, 0), -1);
        lie("raid(-1, 0)", r -> r.raid(-1, 0), -1);
        lie("raid(4, 0)", r -> r.raid(4, 0), -1);
        lie("raid(0, 4)", r -> r.raid(0, 4), -1);
        lie("raid(0, -1)", r -> r.raid(0, -1), -1);
    }

    private static void lie(String what, ToLongFunction<HideReader> call, long answer, int... row) {
        HideReader asked = lively();
        CHECKS.due(what, call.applyAsLong(asked), answer);
        CHECKS.lies(asked, what, row);
        CHECKS.due("all else behind " + what, withoutLying(Autopsy.of(asked)), withoutLying(Autopsy.of(lively())));
    }

    private static String withoutLying(String autopsy) {
        return autopsy.replaceAll(" about12 -?[0-9]+;", "").replaceAll(" lies -?[0-9]+;", "");
    }

    /** Promise 1: "An empty VALLEY (turns 1)." Whatever is refused, it stays so. */
    private static void newObject() {
        String first = Autopsy.of(new HideReader());
        CHECKS.due("valley() of an empty TAPE", new HideReader().valley(), 0);
        alike("an empty VALLEY told", HideReader::new, HideReader::valley, 0);
        CHECKS.due("a text of blanks is an empty VALLEY", Autopsy.of(Checks.told(" \n")), first);
        CHECKS.due("turns 1 is an empty VALLEY", Autopsy.of(Checks.told("turns 1;night 0;draw 0;")), first);
        HideReader again = Checks.told(TEXT);
        again.season();
        again.chain();
        again.image(1);
        again.seen(1, 1, true);
        again.valley();
        CHECKS.due("an empty VALLEY behind another one", Autopsy.of(again), first);
        Supplier<HideReader> maker = HideReader::new;
        alike("burn", maker, r -> r.burn(0, 0, 0), -1);
        alike("sell", maker, r -> r.sell(0, 0), -1);
        alike("clean", maker, r -> r.clean(0), -1);
        alike("undo", maker, r -> flag(r.undo()), 0);
        alike("redo", maker, r -> flag(r.redo()), 0);
        alike("seen", maker, r -> r.seen(1, 0, true), -1);
        alike("untell", maker, r -> flag(r.untell(0)), 0);
        alike("back", maker, r -> r.back(0), -1);
        alike("chain", maker, HideReader::chain, 0);
        alike("forge", maker, r -> r.forge(0, 0), -1);
        alike("raid", maker, r -> r.raid(0, 1), -1);
        alike("lowest", maker, HideReader::lowest, 0);
        alike("highest", maker, HideReader::highest, 0);
        alike("fresh", maker, HideReader::fresh, 1);
        alike("safe", maker, HideReader::safe, 0);
        alike("useful", maker, HideReader::useful, 0);
        alike("twins", maker, HideReader::twins, 0);
        alike("untouched", maker, HideReader::untouched, 4095);
        alike("tells", maker, HideReader::tells, -1);
        alike("closed", maker, HideReader::closed, 1);
        alike("strays", maker, HideReader::strays, 0);
        alike("rows", maker, r -> r.rows(0), 0);
        alike("ask", maker, r -> r.ask(0, 0), -1);
        alike("will", maker, r -> r.will(0), 0);
        alike("law", maker, r -> r.law(0), 0);
    }
}
