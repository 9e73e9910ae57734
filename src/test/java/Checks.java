import java.nio.charset.StandardCharsets;

/** What the tests have in common: telling a text to a reader, and counting answers that are not as due. */
final class Checks {
    private int wrong = 0;
    private int asked = 0;

    void due(String what, long got, long want) {
        asked++;
        if (got != want) {
            wrong++;
            System.out.println(what + " answered " + got + ", due is " + want);
        }
    }

    void due(String what, boolean got, boolean want) {
        due(what, got ? 1 : 0, want ? 1 : 0);
    }

    void due(String what, String got, String want) {
        asked++;
        if (!got.equals(want)) {
            wrong++;
            int from = 0;
            while (from < got.length() && from < want.length() && got.charAt(from) == want.charAt(from)) {
                from++;
            }
            System.out.println(what + " shows .." + part(got, from) + "\n  due is .." + part(want, from));
        }
    }

    private static String part(String text, int from) {
        return text.substring(Math.max(0, from - 40), Math.min(text.length(), from + 60));
    }

    /** What lies there, with how many there are, and that there is nothing before and behind. */
    void lies(HideReader reader, String what, int... row) {
        due(what + ": how many lie there", reader.about(12), row.length);
        for (int i = 0; i < row.length; i++) {
            due(what + ": lies(" + i + ")", reader.lies(i), row[i]);
        }
        due(what + ": lies behind", reader.lies(row.length), -1);
        due(what + ": lies(-1)", reader.lies(-1), -1);
    }

    /** A text that has this fault at this place, on a new object. */
    void fault(String text, int kind, int place) {
        HideReader reader = new HideReader();
        feed(reader, text);
        due("valley() of " + text, reader.valley(), kind == 0 ? reader.about(0) : -1);
        due("fault(0) of " + text, reader.fault(0), kind);
        due("fault(1) of " + text, reader.fault(1), place);
    }

    void fine(String text) {
        fault(text, 0, -1);
    }

    int asked() {
        return asked;
    }

    /** Ends the test, with exit code 1 if an answer was wrong. */
    void close(String name) {
        System.out.println(name + ": " + asked + " answers, " + wrong + " not as due");
        if (wrong != 0) {
            System.exit(1);
        }
    }

    static void feed(HideReader reader, String text) {
        byte[] bytes = text.getBytes(StandardCharsets.ISO_8859_1);
        int before = reader.about(10);
        int[] n = new int[5];
        for (int at = 0; at < bytes.length; at += 20) {
            for (int i = 0; i < 20; i++) {
                n[i / 4] = n[i / 4] << 8 | (at + i < bytes.length ? bytes[at + i] & 255 : ' ');
            }
            reader.feed(n[0], n[1], n[2], n[3], n[4]);
        }
        reader.end(before + bytes.length);
    }

    /** A reader of a text that has no fault. */
    static HideReader told(String text) {
        HideReader reader = new HideReader();
        feed(reader, text);
        if (reader.valley() == HideReader.NONE) {
            throw new IllegalArgumentException("fault " + reader.fault(0) + " at " + reader.fault(1) + ": " + text);
        }
        return reader;
    }

    static int bits(int... strokes) {
        int mark = 0;
        for (int stroke : strokes) {
            mark |= 1 << stroke;
        }
        return mark;
    }
}
