import java.util.List;

/** The edges of a VALLEY's text, sentence by sentence of "Terms", and of promises 2 to 5. */
public final class TextEdgesTest {
    private static final Checks CHECKS = new Checks();
    private static final String SIGNS = ";()<>=+-*/%";
    private static final List<String> OWN_WORDS = List.of("turns", "mirror", "herd", "strokes", "iron", "beast", "of", "born", "shows",
        "night", "draw", "or", "and", "not", "age", "scars", "stroke", "season");

    public static void main(String[] args) {
        mostBytes();
        bytesOfNumbers();
        everyByteAtFirst();
        everyByteBehindANumber();
        everyByteBehindAWord();
        lettersOfWords();
        digitsOfNumbers();
        letterBehindNumber();
        asLongAsCanBe();
        blanksPartOrNot();
        ownWordsAreNoNames();
        otherWordsAreNames();
        turns();
        onceEach();
        mostHerds();
        mostIrons();
        mostBeasts();
        numberedAsTold();
        strokes();
        herdsToldAhead();
        born();
        nightAndDraw();
        cutAtEachToken();
        firstByItsPlace();
        leastAtOnePlace();
        toldAlreadyOfItsSort();
        latestFault();
        CHECKS.close("TextEdgesTest");
    }

    private static void fault(String text, int kind, int place) {
        CHECKS.fault(text, kind, place);
    }

    private static void fine(String text) {
        CHECKS.fine(text);
    }

    private static void due(String what, long got, long want) {
        CHECKS.due(what, got, want);
    }

    private static boolean isLetter(int b) {
        return b >= 'a' && b <= 'z';
    }

    private static boolean isDigit(int b) {
        return b >= '0' && b <= '9';
    }

    /** "at most 1,600 bytes (empty at first)"; "the end: the text's length". */
    private static void mostBytes() {
        fine("");
        String herd = "herd a strokes 0;";
        String full = " ".repeat(1600 - herd.length()) + herd;
        fine(full);
        due("a herd in the last bytes", Checks.told(full).about(0), 1);
        fine(herd + " ".repeat(1583));
        fine("\n".repeat(1600));
        fault(full.substring(1) + "?", 1, 1599);
        fault(full.substring(1) + ";", 2, 1599);
        fault(full.substring(7) + " mirror", 2, 1600);
        fault(full.substring(7) + "mirror ", 2, 1600);
        fault(" ".repeat(1591) + "abcdefghi", 1, 1591);
        fault(" ".repeat(1592) + "abcdefgh", 2, 1592);
        fault(" ".repeat(1591) + "draw 1000", 4, 1596);
        fault(" ".repeat(1590) + "draw 10000", 1, 1595);
        fault("x", 2, 0);
    }

    /** "Twenty bytes come behind those on the TAPE, of each number the highest first". */
    private static void bytesOfNumbers() {
        HideReader reader = new HideReader();
        due("feed \"turns 4;mirror;\\n  \\n \"", reader.feed(0x7475726e, 0x7320343b, 0x6d697272, 0x6f723b0a, 0x20200a20), 20);
        due("feed \"herd ab strokes 0 11\"", reader.feed(0x68657264, 0x20616220, 0x7374726f, 0x6b657320, 0x30203131), 40);
        due("feed \";draw 999; ..\"", reader.feed(0x3b647261, 0x77203939, 0x393b2020, 0x20202020, 0x20202020), 60);
        due("valley()", reader.valley(), 1);
        due("brand(0)", reader.brand(0), 1 | 1 << 11);
        due("about(3)", reader.about(3), 8);
        due("about(5)", reader.about(5), 999);
        HideReader high = new HideReader();
        due("feed of the highest bytes", high.feed(0x20202020, 0x20ffffff, -1, Integer.MIN_VALUE, -1), 20);
        due("valley()", high.valley(), -1);
        due("byte 255 is no TOKEN", high.fault(0), 1);
        due("its place", high.fault(1), 5);
        due("feed behind it", high.feed(0, 0, 0, 0, 0), 40);
        due("end(4)", high.end(4), 4);
        due("valley() of blanks", high.valley(), 0);
    }

    /** Words, N, signs, blanks: every byte that there is, by itself. */
    private static void everyByteAtFirst() {
        for (int b = 0; b < 256; b++) {
            String text = String.valueOf((char) b);
            if (b == 32 || b == 10) {
                fine(text);
            } else {
                fault(text, isLetter(b) || isDigit(b) || SIGNS.indexOf(b) >= 0 ? 2 : 1, 0);
            }
        }
    }

    private static void everyByteBehindANumber() {
        for (int b = 0; b < 256; b++) {
            String text = "draw 5" + (char) b + ";";
            if (b == 32 || b == 10 || isDigit(b)) {
                fine(text);
            } else if (isLetter(b)) {
                fault(text, 1, 5);
            } else if (b == ';') {
                fault(text, 2, 7);
            } else {
                fault(text, SIGNS.indexOf(b) >= 0 ? 2 : 1, 6);
            }
        }
    }

    private static void everyByteBehindAWord() {
        for (int b = 0; b < 256; b++) {
            String text = "mirror" + (char) b + ";";
            if (b == 32 || b == 10) {
                fine(text);
            } else if (isLetter(b)) {
                fault(text, 2, 0);
            } else if (b == ';') {
                fault(text, 2, 7);
            } else {
                fault(text, isDigit(b) || SIGNS.indexOf(b) >= 0 ? 2 : 1, 6);
            }
        }
    }

    /** "words (a .. z, 8 at most)". */
    private static void lettersOfWords() {
        for (int n = 1; n <= 8; n++) {
            fine("herd " + "z".repeat(n) + " strokes 0;");
            fine("iron " + "a".repeat(n) + " strokes 0;");
            fault("z".repeat(n), 2, 0);
        }
        for (int n : new int[] {9, 10, 13, 16, 64, 1000}) {
            fault("herd " + "z".repeat(n) + " strokes 0;", 1, 5);
            fault("iron " + "a".repeat(n) + " strokes 0;", 1, 5);
            fault("z".repeat(n), 1, 0);
        }
        fine("herd abcdefgh strokes 0;herd abcdefgi strokes 0;herd bbcdefgh strokes 0;beast x of abcdefgh;");
        fault("herd abcdefgh strokes 0;beast x of abcdefghi;", 1, 35);
        fault("herd abcdefgh strokes 0;beast x of abcdefgg;", 5, 35);
        fault("herd zzzzzzzz strokes 0;herd zzzzzzzz strokes 0;", 3, 29);
        fault("herd aaaaaaaa strokes 0;beast x of aaaaaaa;", 5, 35);
        fine("herd a strokes 0;herd aa strokes 0;herd aaa strokes 0;herd z strokes 0;herd za strokes 0;");
        fault("strokesxy", 1, 0);
        fault("mirrormirror;", 1, 0);
    }

    /** "N (1 to 4 digits)". */
    private static void digitsOfNumbers() {
        for (String n : new String[] {"0", "00", "000", "0000", "9", "09", "999", "0999"}) {
            fine("draw " + n + ";");
            due("draw " + n, Checks.told("draw " + n + ";").about(5), Integer.parseInt(n));
        }
        for (String n : new String[] {"1000", "9999"}) {
            fault("draw " + n + ";", 4, 5);
        }
        for (String n : new String[] {"00000", "00999", "10000", "99999", "4294967296", "18446744073709551616"}) {
            fault("draw " + n + ";", 1, 5);
            fault("shows " + n + ";", 1, 6);
            fault("herd a strokes 1 " + n + ";", 1, 17);
            fault(n, 1, 0);
        }
        fine("shows 9999;");
        fine("herd a strokes 0000 0001 0011;");
        due("strokes of four digits", Checks.told("herd a strokes 0000 0001 0011;").brand(0), Checks.bits(0, 1, 11));
    }

    /** "no letter directly behind an N". */
    private static void letterBehindNumber() {
        for (char c = 'a'; c <= 'z'; c++) {
            fault("draw 5" + c + ";", 1, 5);
            fault("draw 5 " + c + ";", 2, 7);
            fault("draw 5\n" + c + ";", 2, 7);
            fault("shows 1" + c + ";", 1, 6);
        }
        fault("night 30draw 7;", 1, 6);
        fault("shows 1or 2;", 1, 6);
        fine("shows 1 or 2;");
        fine("shows 1 or2;");
        fault("shows 1 or2and 3;", 1, 10);
        fault("herd a strokes 0;beast b of a born 3x;", 1, 35);
        fine("night30;draw7;turns2;");
    }

    /** "each is as long as can be". */
    private static void asLongAsCanBe() {
        fault("mirrors;", 2, 0);
        fault("mir ror;", 2, 0);
        fault("herd a stroke s 0;", 2, 7);
        fault("shows ageage;", 2, 6);
        fault("shows notage;", 2, 6);
        fault("shows age age;", 2, 10);
        fault("herd a strokes 0;beast x ofa;", 2, 25);
        fault("herd a strokes 0;beast x of aborn 3;", 5, 28);
        fault("herdastrokes0;", 1, 0);
        fault("turns 1 2;", 2, 8);
        fault("turns 12;", 4, 6);
        due("10 and 1 0 are unlike", Checks.told("herd a strokes 10;").brand(0), 1 << 10);
        due("10 and 1 0 are unlike", Checks.told("herd a strokes 1 0;").brand(0), 3);
        fault("herd a strokes 11 1 1;", 3, 20);
    }

    /** "blanks (32, 10) part them or not". */
    private static void blanksPartOrNot() {
        String tight = "turns2;mirror;herd a strokes0 1;iron i strokes2;beast x of a born3;shows(age<5)and not(scars=2*3);night10;draw7;";
        String[] gaps = {" ", "\n", "  ", " \n ", "\n\n"};
        String[] tokens = {"turns", "2", ";", "mirror", ";", "herd", "a", "strokes", "0", "1", ";", "iron", "i", "strokes", "2", ";", "beast", "x",
            "of", "a", "born", "3", ";", "shows", "(", "age", "<", "5", ")", "and", "not", "(", "scars", "=", "2", "*", "3", ")", ";",
            "night", "10", ";", "draw", "7", ";"};
        HideReader plain = Checks.told(tight);
        for (String gap : gaps) {
            HideReader wide = Checks.told(gap + String.join(gap, tokens) + gap);
            for (int what = 0; what < 15; what++) {
                due("about(" + what + ") by another gap", wide.about(what), plain.about(what));
            }
            due("brand(0) by another gap", wide.brand(0), 3);
            due("iron(0) by another gap", wide.iron(0), 4);
            due("beast(0, 4) by another gap", wide.beast(0, 4), 3);
            due("beast(0, 1) by another gap", wide.beast(0, 1), 3);
        }
        for (String other : new String[] {"\t", "\r", "\f", "\0", "\u000b", "\u00a0", "\u0085"}) {
            fault("turns" + other + "2;", 1, 5);
            fault(other, 1, 0);
            fault("turns 2;" + other, 1, 8);
        }
    }

    /** "Words that stand for themselves here are no NAMES". */
    private static void ownWordsAreNoNames() {
        for (String word : OWN_WORDS) {
            fault("herd " + word + " strokes 0;", 2, 5);
            fault("iron " + word + " strokes 0;", 2, 5);
            fault("herd a strokes 0;beast " + word + " of a;", 2, 23);
            fault("herd a strokes 0;beast b of " + word + ";", 2, 28);
            boolean isFact = List.of("age", "scars", "stroke", "born", "season").contains(word);
            if (isFact) {
                fine("shows " + word + ";");
            } else {
                fault("shows " + word + ";", 2, word.equals("not") ? 9 : 6);
            }
        }
        for (String word : List.of("strokes", "of", "born", "or", "and", "not", "age", "scars", "stroke", "season", "other")) {
            fault(word + " 1;", 2, 0);
            fault("mirror;" + word + ";", 2, 7);
        }
    }

    private static void otherWordsAreNames() {
        for (String word : List.of("turn", "turnss", "mirrors", "herds", "her", "irons", "beasts", "show", "nights", "draws", "ofs", "o", "ors", "ands",
            "nots", "no", "ages", "scar", "borne", "bor", "seasons", "strok", "strokess", "valley", "line", "e", "both", "one", "sum", "term", "unit", "n", "name")) {
            fine("herd " + word + " strokes 0;iron " + word + " strokes 1;beast " + word + " of " + word + ";");
            fault("shows " + word + ";", 2, 6);
        }
    }

    /** "turns (1, 2 or 4; 1 if not told)"; "4 a number that can't be (turns 3, too)". */
    private static void turns() {
        for (int n = 0; n <= 130; n++) {
            if (n == 1 || n == 2 || n == 4) {
                fine("turns " + n + ";");
                due("about(14), turns " + n, Checks.told("turns " + n + ";").about(14), n);
                due("about(3), turns " + n, Checks.told("turns " + n + ";").about(3), n);
                due("about(3), mirror, turns " + n, Checks.told("mirror;turns " + n + ";").about(3), 2 * n);
            } else {
                fault("turns " + n + ";", 4, 6);
            }
        }
        fault("turns 9999;", 4, 6);
        due("about(14), not told", Checks.told("mirror;").about(14), 1);
        due("about(3), not told", Checks.told("").about(3), 1);
        due("about(3), mirror alone", Checks.told("mirror;").about(3), 2);
        fine("turns 0004;");
    }

    /** "mirror once each", "shows, night, draw once each"; "a second time: at the line's first word". */
    private static void onceEach() {
        String[] lines = {"turns 2;", "mirror;", "shows age;", "night 5;", "draw 5;"};
        fine(String.join("", lines));
        fine(lines[4] + lines[3] + lines[2] + lines[1] + lines[0]);
        for (String line : lines) {
            fine(line);
            fault(line + line, 2, line.length());
            fault(line + " \n" + line, 2, line.length() + 2);
            for (String other : lines) {
                if (!other.equals(line)) {
                    fault(line + other + line, 2, line.length() + other.length());
                }
            }
            fault(line + line.replaceAll("[^a-z].*", ""), 2, line.length());
            fault(line + line.replaceAll("[^a-z].*", "") + " 99999", 2, line.length());
        }
    }

    private static String many(String sort, int count) {
        StringBuilder s = new StringBuilder();
        for (int i = 0; i < count; i++) {
            s.append(sort).append(" n").append((char) ('a' + i)).append(sort.equals("beast") ? " of na;" : " strokes " + i + ";");
        }
        return s.toString();
    }

    /** "at most 8 HERDS"; "one of a sort too many: at the line's first word". */
    private static void mostHerds() {
        for (int n = 0; n <= 8; n++) {
            HideReader reader = Checks.told(many("herd", n));
            due("about(0) of " + n, reader.about(0), n);
            due("brand of the last", reader.brand(n - 1), n == 0 ? -1 : 1 << n - 1);
            due("brand behind it", reader.brand(n), -1);
        }
        String eight = many("herd", 8);
        fault(many("herd", 9), 2, eight.length());
        fault(many("herd", 8) + "\n herd zz strokes 0;", 2, eight.length() + 2);
        fault(many("herd", 8) + "herd na strokes 0;", 2, eight.length());
        fault(many("herd", 8) + "herd 5", 2, eight.length());
        fine(eight + many("iron", 6) + many("beast", 8));
    }

    /** "6 IRONS". */
    private static void mostIrons() {
        for (int n = 0; n <= 6; n++) {
            HideReader reader = Checks.told(many("iron", n));
            due("about(1) of " + n, reader.about(1), n);
            due("iron, the last", reader.iron(n - 1), n == 0 ? -1 : 1 << n - 1);
            due("iron behind it", reader.iron(n), -1);
        }
        fault(many("iron", 7), 2, many("iron", 6).length());
        fault(many("iron", 6) + "herd a strokes 0; iron zz strokes 0;", 2, many("iron", 6).length() + 18);
        fault(many("iron", 6) + "iron", 2, many("iron", 6).length());
    }

    /** "8 BEASTS". */
    private static void mostBeasts() {
        String herd = many("herd", 1);
        for (int n = 0; n <= 8; n++) {
            HideReader reader = Checks.told(herd + many("beast", n));
            due("about(2) of " + n, reader.about(2), n);
            due("beast, the last", reader.beast(n - 1, 0), n == 0 ? -1 : 1);
            due("beast behind it", reader.beast(n, 0), -1);
        }
        fault(herd + many("beast", 9), 2, herd.length() + many("beast", 8).length());
        fault(herd + many("beast", 8) + "beast na of zz;", 2, herd.length() + many("beast", 8).length());
        fault(herd + many("beast", 8) + "beast", 2, herd.length() + many("beast", 8).length());
    }

    /** "numbered as told, each sort by itself". */
    private static void numberedAsTold() {
        HideReader r = Checks.told("iron z strokes 9;herd z strokes 3;beast z of z;iron b strokes 1;herd a strokes 2;beast a of a;iron a strokes 4;herd b strokes 8;beast b of a;");
        int[] brands = {8, 4, 256};
        int[] irons = {512, 2, 16};
        int[] homes = {0, 1, 1};
        for (int i = 0; i < 3; i++) {
            due("brand(" + i + ")", r.brand(i), brands[i]);
            due("iron(" + i + ")", r.iron(i), irons[i]);
            due("beast(" + i + ", 3)", r.beast(i, 3), homes[i]);
            due("beast(" + i + ", 0)", r.beast(i, 0), brands[homes[i]]);
        }
    }

    /** "each of unlike STROKES 0 .. 11"; "a STROKE told already in its line". */
    private static void strokes() {
        for (String sort : new String[] {"herd", "iron"}) {
            for (int n = 0; n <= 11; n++) {
                HideReader reader = Checks.told(sort + " a strokes " + n + ";");
                due(sort + " of stroke " + n, sort.equals("herd") ? reader.brand(0) : reader.iron(0), 1 << n);
                fault(sort + " a strokes " + n + " " + n + ";", 3, n < 10 ? 17 : 18);
            }
            for (int n : new int[] {12, 13, 31, 32, 44, 64, 99, 100, 999, 9999}) {
                fault(sort + " a strokes " + n + ";", 4, 15);
                fault(sort + " a strokes 0 " + n + ";", 4, 17);
            }
            fault(sort + " a strokes;", 2, 14);
            fault(sort + " a strokes ;", 2, 15);
            fault(sort + " a strokes b;", 2, 15);
            String all = sort + " a strokes 11 10 9 8 7 6 5 4 3 2 1 0";
            fine(all + ";");
            fault(all + " 11;", 3, all.length() + 1);
            fault(all + " 0;", 3, all.length() + 1);
            fault(all + " 12;", 4, all.length() + 1);
            fault(all + " x;", 2, all.length() + 1);
            fault(all, 2, all.length());
            fault(sort + " a strokes 0 1 2 3 0;", 3, 23);
            fault(sort + " a strokes 1 01;", 3, 17);
            fine(sort + " a strokes 0 1;" + sort + " b strokes 1 0;");
        }
        fine("herd a strokes 0;iron a strokes 0;");
    }

    /** "of a HERD told ahead"; "5 a NAME that no HERD has". */
    private static void herdsToldAhead() {
        fine("herd a strokes 0;beast b of a;");
        fault("beast b of a;herd a strokes 0;", 5, 11);
        fault("iron a strokes 0;beast b of a;", 5, 28);
        fault("herd a strokes 0;beast b of a;beast c of b;", 5, 41);
        fault("beast b of b;", 5, 11);
        fault("herd a strokes 0;beast b of aa;", 5, 28);
        fault("herd aa strokes 0;beast b of a;", 5, 29);
        due("of the last of eight", Checks.told(many("herd", 8) + "beast x of nh;").beast(0, 3), 7);
        due("of the first of eight", Checks.told(many("herd", 8) + "beast x of na;").beast(0, 3), 0);
    }

    /** "born 0 .. 99, 0 if not told". */
    private static void born() {
        String line = "herd a strokes 0;beast b of a";
        for (int n : new int[] {0, 1, 50, 98, 99}) {
            HideReader reader = Checks.told(line + " born " + n + ";");
            due("beast(0, 4), born " + n, reader.beast(0, 4), n);
            due("age(0, 0), born " + n, reader.age(0, 0), n);
        }
        for (int n : new int[] {100, 101, 999, 1000, 9999}) {
            fault(line + " born " + n + ";", 4, line.length() + 6);
        }
        due("beast(0, 4), born not told", Checks.told(line + ";").beast(0, 4), 0);
        due("age(0, 0), born not told", Checks.told(line + ";").age(0, 0), 0);
        fault(line + " born;", 2, line.length() + 5);
        fault(line + " born x;", 2, line.length() + 6);
        fault(line + " 5;", 2, line.length() + 1);
        fault(line + " born 5 5;", 2, line.length() + 8);
        fault(line + " born 5 born 5;", 2, line.length() + 8);
    }

    /** "night (0 .. 100 of 100; 0), draw (0 .. 999; 0)". */
    private static void nightAndDraw() {
        for (int n : new int[] {0, 1, 50, 99, 100}) {
            due("about(13), night " + n, Checks.told("night " + n + ";").about(13), n);
        }
        for (int n : new int[] {101, 102, 200, 1000, 9999}) {
            fault("night " + n + ";", 4, 6);
        }
        for (int n : new int[] {0, 1, 500, 998, 999}) {
            due("about(5), draw " + n, Checks.told("draw " + n + ";").about(5), n);
        }
        for (int n : new int[] {1000, 1001, 9999}) {
            fault("draw " + n + ";", 4, 5);
        }
        due("about(13), not told", Checks.told("draw 9;").about(13), 0);
        due("about(5), not told", Checks.told("night 9;").about(5), 0);
    }

    /** A text that ends too early: "the end: the text's length"; one that goes on where it should not. */
    private static void cutAtEachToken() {
        String[] tokens = {"turns", "2", ";", "mirror", ";", "herd", "a", "strokes", "0", ";", "herd", "b", "strokes", "0", "1", ";",
            "iron", "i", "strokes", "2", ";", "beast", "x", "of", "a", ";", "beast", "y", "of", "b", "born", "3", ";",
            "shows", "not", "(", "age", "<", "5", ")", "and", "scars", "+", "1", "or", "stroke", "*", "season", ";", "night", "10", ";", "draw", "7", ";"};
        StringBuilder s = new StringBuilder();
        for (String token : tokens) {
            s.append(token);
            for (String end : new String[] {"", " ", "\n  "}) {
                if (token.equals(";")) {
                    fine(s + end);
                } else {
                    fault(s + end, 2, s.length() + end.length());
                }
            }
            s.append(' ');
            fault(s + "?", 1, s.length());
            fault(s + "abcdefghi", 1, s.length());
            // Told at first already, so that it can stand nowhere.
            fault(s + "turns 2;", 2, s.length());
        }
    }

    /** "FAULTS, the first by its place". */
    private static void firstByItsPlace() {
        fault("turns 3;?", 4, 6);
        fault("turns 3?", 4, 6);
        fault("?turns 3", 1, 0);
        fault("mirror;mirror;turns 3;", 2, 7);
        fault("turns 3;mirror;mirror;", 4, 6);
        fault("beast a of a;abcdefghi", 5, 11);
        fault("herd a strokes 0;herd a strokes 12;", 3, 22);
        fault("herd a strokes 12;herd a strokes 0;", 4, 15);
        fault("herd a strokes 0 0 12;", 3, 17);
        fault("herd a strokes 0 12 0;", 4, 17);
        fault("night 101 draw", 4, 6);
        fault("night 100 draw", 2, 10);
        fault("herd a strokes 0;beast b of c born 100;", 5, 28);
        fault("herd a strokes 0;beast a of a;beast a of c;", 3, 36);
    }

    /** "at one place the least". */
    private static void leastAtOnePlace() {
        fault("turns 33333;", 1, 6);
        fault("turns 3x;", 1, 6);
        fault("herd 12345 strokes 0;", 1, 5);
        fault("herd a strokes 1 00001;", 1, 17);
        fault("herd a strokes 1 1x;", 1, 17);
        fault("herd a strokes 12345;", 1, 15);
        fault("herd a strokes 0;beast b of abcdefghi;", 1, 28);
        fault("herd a strokes 0;beast b of of;", 2, 28);
        fault("herd a strokes 0;beast b of 12;", 2, 28);
        fault("herd a strokes 0;herd 12 strokes 0;", 2, 22);
        fault("night -1;", 2, 6);
        fault("night 99999;", 1, 6);
    }

    /** "3 a NAME told already (of its sort)". */
    private static void toldAlreadyOfItsSort() {
        fault("herd a strokes 0;herd b strokes 0;herd a strokes 1;", 3, 39);
        fault("herd a strokes 0;herd b strokes 0;herd b strokes 1;", 3, 39);
        fault("iron a strokes 0;iron b strokes 0;iron b strokes 1;", 3, 39);
        fault("herd a strokes 0;beast b of a;beast c of a;beast b of a;", 3, 49);
        fine("herd a strokes 0;iron a strokes 0;beast a of a;");
        fine("iron b strokes 0;herd b strokes 0;beast b of b;");
        // A text that was refused has told nothing.
        HideReader reader = new HideReader();
        Checks.feed(reader, "herd a strokes 0;mirror;herd a strokes 1;");
        due("valley()", reader.valley(), -1);
        due("fault(0)", reader.fault(0), 3);
        reader.end(24);
        due("valley() of its beginning", reader.valley(), 1);
        Checks.feed(reader, "herd a strokes 0;mirror;");
        due("valley() told once more", reader.valley(), 1);
        due("fault(0)", reader.fault(0), 0);
    }

    /** "Of the latest valley() what 0: its FAULT (0), 1: its place (NONE). NONE for another what." */
    private static void latestFault() {
        HideReader reader = new HideReader();
        due("fault(0) before any", reader.fault(0), 0);
        due("fault(1) before any", reader.fault(1), -1);
        Checks.feed(reader, "turns 3;");
        due("fault(0) before valley()", reader.fault(0), 0);
        reader.valley();
        for (int what : new int[] {-1, 2, 3, Integer.MIN_VALUE, Integer.MAX_VALUE}) {
            due("fault(" + what + ")", reader.fault(what), -1);
        }
        due("fault(0)", reader.fault(0), 4);
        due("fault(1)", reader.fault(1), 6);
        reader.end(0);
        due("fault(0) stays behind end", reader.fault(0), 4);
        Checks.feed(reader, "?");
        due("fault(1) stays behind feed", reader.fault(1), 6);
        due("valley()", reader.valley(), -1);
        due("fault(0) of the latest", reader.fault(0), 1);
        due("fault(1) of the latest", reader.fault(1), 0);
        due("the TAPE stays", reader.about(10), 1);
        reader.end(0);
        due("valley()", reader.valley(), 0);
        due("fault(0) of none", reader.fault(0), 0);
        due("fault(1) of none", reader.fault(1), -1);
    }
}
