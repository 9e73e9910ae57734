/** All that calls can show of a reader, as one text: two readers whose texts are alike are in the same state. */
final class Autopsy {
    private static final int MOST_STEPS = 4;

    private final HideReader reader;
    private final StringBuilder out = new StringBuilder();

    private Autopsy(HideReader reader) {
        this.reader = reader;
    }

    /** The reader is of no use behind it: ACTS are undone, boxes brought back, the TAPE read. */
    static String of(HideReader reader) {
        Autopsy a = new Autopsy(reader);
        a.numbers();
        a.told();
        a.beasts();
        a.seen();
        a.acts();
        a.boxes();
        a.tape();
        return a.out.toString();
    }

    /** What is asked by what is now, of the first, the last and one behind it; no state changes but what lies there. */
    static String questions(HideReader reader) {
        Autopsy a = new Autopsy(reader);
        a.ofAll();
        for (int i : new int[] {0, 1, reader.about(2) - 1, reader.about(2)}) {
            a.ofBeast(i);
        }
        for (int i : new int[] {0, 1, reader.about(0) - 1, reader.about(0)}) {
            a.ofHerd(i);
        }
        for (int mark : new int[] {0, 1, 5, 65, 1638, 4095}) {
            a.ofMark(mark);
        }
        return a.out.toString();
    }

    private void ofAll() {
        put("chain", reader.chain(), reader.lies(0), reader.lies(1), reader.lies(2));
        put("brands", reader.lowest(), reader.highest(), reader.fresh(), reader.safe(), reader.twins(), reader.closed());
        put("king", reader.king(0), reader.king(1), reader.useful());
        put("strokes", reader.untouched(), reader.tells(), reader.strays(), reader.will(3), reader.law(3));
        put("odds", reader.odds(3, 0), reader.odds(3, 1));
        put("rows", reader.rows(0), reader.sure(1, 0), reader.ask(0, 0), reader.ask(1, 0));
    }

    private void ofBeast(int b) {
        put("beast", reader.beast(b, 1), reader.origins(b), reader.read(b), reader.tempt(b, 0), reader.tempt(b, 1), reader.fades(b), reader.oldest(b));
    }

    private void ofHerd(int h) {
        put("herd", reader.claim(h), reader.shared(h, 0), reader.forge(0, h), reader.lies(0), reader.lies(1), reader.raid(0, h), reader.lies(0), reader.lies(1));
    }

    private void ofMark(int mark) {
        put("mark", reader.faces(mark), reader.norm(mark), reader.under(1, mark), reader.make(1, mark), reader.make(0, mark), reader.nearest(mark, 0), reader.nearest(mark, 1));
    }

    private void put(String what, long... answers) {
        out.append(' ').append(what);
        for (long answer : answers) {
            out.append(' ').append(answer);
        }
        out.append(';');
    }

    private void numbers() {
        for (int what = 0; what < 15; what++) {
            put("about" + what, reader.about(what));
        }
        put("fault", reader.fault(0), reader.fault(1));
        for (int i = 0; i < reader.about(12); i++) {
            put("lies", reader.lies(i));
        }
    }

    private void told() {
        for (int h = 0; h < reader.about(0); h++) {
            put("brand", reader.brand(h));
        }
        for (int i = 0; i < reader.about(1); i++) {
            put("iron", reader.iron(i));
        }
        put("placed", reader.placed(1, reader.about(3) - 1));
        put("odds", reader.odds(1, 0), reader.odds(1, 1));
    }

    private void beasts() {
        for (int b = 0; b < reader.about(2); b++) {
            for (int what = 0; what < 6; what++) {
                put("beast", reader.beast(b, what));
            }
            for (int s = 0; s < 12; s++) {
                put("age", reader.age(b, s));
            }
        }
        put("law", reader.law(3));
    }

    private void seen() {
        int time = reader.about(9);
        for (int k = time - 3; k <= time; k++) {
            put("rows", reader.rows(k));
        }
        put("sure", reader.sure(1, time), reader.sure(2, time));
        for (int i = 0; i < Math.min(reader.about(8), 4); i++) {
            put("untell", reader.untell(i) ? 1 : 0, reader.rows(time));
        }
    }

    private void herdsNow() {
        put("now", reader.about(4), reader.about(5), reader.about(6), reader.about(7));
        for (int b = 0; b < reader.about(2); b++) {
            put("beast", reader.beast(b, 0), reader.beast(b, 2), reader.oldest(b));
        }
    }

    private void acts() {
        int redone = 0;
        while (redone < MOST_STEPS && reader.redo()) {
            redone++;
            put("redo");
            herdsNow();
        }
        for (int i = 0; i < MOST_STEPS + redone && reader.undo(); i++) {
            put("undo");
            herdsNow();
        }
    }

    private void boxes() {
        for (int box = 0; box < 3; box++) {
            put("back", reader.back(box));
            herdsNow();
        }
    }

    private void tape() {
        put("valley", reader.valley(), reader.fault(0), reader.fault(1), reader.about(10));
    }
}
