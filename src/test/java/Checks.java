import java.nio.charset.StandardCharsets;

/** What the tests have in common: telling a text to a reader, and counting answers that are not as due. */
final class Checks {
    private int wrong = 0;
    private int asked = 0;

    void due(String what, long got, long want) {
        asked++;
        if (got != want) {
            wrong++;
            System.out.println(what + " answered " + got + ", due is " + want);
        }
    }

    void due(String what, boolean got, boolean want) {
        due(what, got ? 1 : 0, want ? 1 : 0);
    }

    /** Ends the test, with exit code 1 if an answer was wrong. */
    void close(String name) {
        System.out.println(name + ": " + asked + " answers, " + wrong + " not as due");
        if (wrong != 0) {
            System.exit(1);
        }
    }

    static void feed(HideReader reader, String text) {
        byte[] bytes = text.getBytes(StandardCharsets.ISO_8859_1);
        int before = reader.about(10);
        int[] n = new int[5];
        for (int at = 0; at < bytes.length; at += 20) {
            for (int i = 0; i < 20; i++) {
                n[i / 4] = n[i / 4] << 8 | (at + i < bytes.length ? bytes[at + i] & 255 : ' ');
            }
            reader.feed(n[0], n[1], n[2], n[3], n[4]);
        }
        reader.end(before + bytes.length);
    }

    /** A reader of a text that has no fault. */
    static HideReader told(String text) {
        HideReader reader = new HideReader();
        feed(reader, text);
        if (reader.valley() == HideReader.NONE) {
            throw new IllegalArgumentException("fault " + reader.fault(0) + " at " + reader.fault(1) + ": " + text);
        }
        return reader;
    }
}
