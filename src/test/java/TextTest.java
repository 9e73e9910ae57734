/** Promises 2 to 5: the tape, the valley's text and its faults. */
public final class TextTest {
    private static final Checks CHECKS = new Checks();

    public static void main(String[] args) {
        tape();
        right();
        noToken();
        misplaced();
        tooMany();
        formulas();
        toldAlready();
        badNumbers();
        noSuchHerd();
        firstOfTwo();
        allStaysBehindAFault();
        CHECKS.close("TextTest");
    }

    private static void fault(String text, int kind, int place) {
        CHECKS.fault(text, kind, place);
    }

    private static void fine(String text) {
        CHECKS.fine(text);
    }

    private static String times(int n, String part) {
        return part.repeat(n);
    }

    private static void tape() {
        HideReader reader = new HideReader();
        CHECKS.due("fault(0) before a text", reader.fault(0), 0);
        CHECKS.due("fault(1) before a text", reader.fault(1), -1);
        CHECKS.due("fault(2)", reader.fault(2), -1);
        CHECKS.due("fault(-1)", reader.fault(-1), -1);
        CHECKS.due("end(0) of nothing", reader.end(0), 0);
        CHECKS.due("end(1) of nothing", reader.end(1), -1);
        CHECKS.due("end(-1)", reader.end(-1), -1);
        for (int i = 1; i <= 80; i++) {
            CHECKS.due("feed " + i, reader.feed(0x20202020, 0x20202020, 0x20202020, 0x20202020, 0x20202020), 20 * i);
        }
        CHECKS.due("feed beyond the end", reader.feed(1, 2, 3, 4, 5), -1);
        CHECKS.due("about(10) of a full tape", reader.about(10), 1600);
        CHECKS.due("end(1601)", reader.end(1601), -1);
        CHECKS.due("end(1581)", reader.end(1581), 1581);
        CHECKS.due("feed, one byte too many", reader.feed(0, 0, 0, 0, 0), -1);
        CHECKS.due("end(1580)", reader.end(1580), 1580);
        CHECKS.due("feed, just room", reader.feed(0x20202020, 0x20202020, 0x20202020, 0x20202020, 0x6d697272), 1600);
        CHECKS.due("valley() of a word cut off", reader.valley(), -1);
        CHECKS.due("its fault", reader.fault(0), 2);
        CHECKS.due("its place", reader.fault(1), 1596);
        CHECKS.due("end(1596)", reader.end(1596), 1596);
        CHECKS.due("valley() of blanks", reader.valley(), 0);
        CHECKS.due("about(10) behind a valley", reader.about(10), 0);
        CHECKS.due("fault(0) behind a valley", reader.fault(0), 0);
        CHECKS.due("fault(1) behind a valley", reader.fault(1), -1);
    }

    private static void right() {
        fine("");
        fine(" \n ");
        fine("turns 1;turns".substring(0, 8));
        fine("turns2;mirror;night100;draw999;");
        fine("mirror ; turns 4 ; night 0 ; draw 0 ;");
        fine("herd line strokes 0 1 2 3 4 5 6 7 8 9 10 11;");
        fine("herd e strokes 0011;iron e strokes 0;beast e of e;beast one of e born 99;");
        fine("herd abcdefgh strokes 5;herd abcdefgi strokes 5;herd bbcdefgh strokes 5;");
        fine("herd ab strokes 5;herd ba strokes 5;herd aab strokes 5;herd b strokes 5;herd a strokes 5;");
        fine(times(1, "herd a strokes 0;herd b strokes 0;herd c strokes 0;herd d strokes 0;herd e strokes 0;herd f strokes 0;herd g strokes 0;herd h strokes 0;"));
        fine("shows not not not not not not not age;");
        fine("shows (((((((age)))))));");
        fine("shows not (not (not (not age = 9999)));");
        fine("shows 1" + times(29, "+1") + ";");
        fine("shows age<3 or(scars)>2 and stroke=born-season*4/2%3;");
    }

    private static void noToken() {
        fault("Turns 1;", 1, 0);
        fault("turns 1;\t", 1, 8);
        fault("turns 1,", 1, 7);
        fault("turns \u00b11;", 1, 6);
        fault("turns 1\0", 1, 7);
        fault("herd abcdefghi strokes 0;", 1, 5);
        fault("turns 00001;", 1, 6);
        fault("turns 1x;", 1, 6);
        fault("turns 12345;", 1, 6);
        fault("shows 9a;", 1, 6);
        fault("strokesx", 2, 0);
        fault("strokesxx", 1, 0);
    }

    private static void misplaced() {
        fault("abc", 2, 0);
        fault("5", 2, 0);
        fault(";", 2, 0);
        fault("strokes", 2, 0);
        fault("turns", 2, 5);
        fault("turns ", 2, 6);
        fault("turns ;", 2, 6);
        fault("turns mirror;", 2, 6);
        fault("turns 1", 2, 7);
        fault("turns 1 1;", 2, 8);
        fault("mirror 1;", 2, 7);
        fault("mirror mirror;", 2, 7);
        fault("herd 1 strokes 0;", 2, 5);
        fault("herd strokes strokes 0;", 2, 5);
        fault("herd season strokes 0;", 2, 5);
        fault("iron of strokes 0;", 2, 5);
        fault("herd a 0;", 2, 7);
        fault("herd a stroke 0;", 2, 7);
        fault("herd a strokes;", 2, 14);
        fault("herd a strokes a;", 2, 15);
        fault("herd a strokes 0 a;", 2, 17);
        fault("herd a strokes 0", 2, 16);
        fault("herd a strokes 0;beast b a;", 2, 25);
        fault("herd a strokes 0;beast b of;", 2, 27);
        fault("herd a strokes 0;beast b of herd;", 2, 28);
        fault("herd a strokes 0;beast b of a born;", 2, 34);
        fault("herd a strokes 0;beast b of a born 1 born 1;", 2, 37);
        fault("herd a strokes 0;beast b of a 5;", 2, 30);
        fault("night;", 2, 5);
        fault("draw age;", 2, 5);
    }

    private static void tooMany() {
        fault("turns 1;turns 1;", 2, 8);
        fault("mirror;mirror;", 2, 7);
        fault("shows 1;shows 1;", 2, 8);
        fault("night 1;night 1;", 2, 8);
        fault("draw 1;draw 1;", 2, 7);
        StringBuilder s = new StringBuilder();
        for (char c = 'a'; c < 'i'; c++) s.append("herd ").append(c).append(" strokes 0;");
        fine(s.toString());
        fault(s + "herd a strokes 0;", 2, s.length());
        fault(s + " herd", 2, s.length() + 1);
        StringBuilder b = new StringBuilder(s);
        for (char c = 'a'; c < 'i'; c++) b.append("beast ").append(c).append(" of a;");
        fine(b.toString());
        fault(b + "beast z of q", 2, b.length());
        StringBuilder i = new StringBuilder();
        for (char c = 'a'; c < 'g'; c++) i.append("iron ").append(c).append(" strokes 0;");
        fine(i.toString());
        fault(i + "iron?", 2, i.length());
    }

    private static void formulas() {
        fault("shows ;", 2, 6);
        fault("shows", 2, 5);
        fault("shows 1 2;", 2, 8);
        fault("shows 1+;", 2, 8);
        fault("shows -1;", 2, 6);
        fault("shows 1<2<3;", 2, 9);
        fault("shows 1=not 2;", 2, 8);
        fault("shows 1+not 2;", 2, 8);
        fault("shows (1;", 2, 8);
        fault("shows 1);", 2, 7);
        fault("shows ();", 2, 7);
        fault("shows a;", 2, 6);
        fault("shows night;", 2, 6);
        fault("shows not;", 2, 9);
        fault("shows 1 or;", 2, 10);
        fault("shows and 1;", 2, 6);
        fault("shows 1" + times(30, "+1") + ";", 2, 6 + 60);
        fault("shows 1" + times(29, "+1") + "+;", 2, 6 + 60);
        fault("shows (1)" + times(28, "+1") + "+1;", 2, 6 + 3 + 57);
        fine("shows (1)" + times(28, "+1") + ";");
        fault("shows (1" + times(29, "+1") + ");", 2, 6 + 2 + 57);
        fault("shows 1" + times(29, "+1") + "+(1);", 2, 6 + 60);
        fault("shows not not not not not not not not age;", 2, 6 + 28);
        fault("shows ((((((((age))))))));", 2, 6 + 7);
        fault("shows not not not not not not not (age);", 2, 6 + 28);
        fault("shows (((((((not age)))))));", 2, 6 + 7);
        fine("shows ((((((not age))))))and((((((not age))))));");
        HideReader reader = Checks.told("shows (age) + 2 * (3);");
        CHECKS.due("about(11), units", reader.about(11), 5);
    }

    private static void toldAlready() {
        fault("herd a strokes 0;herd a strokes 1;", 3, 22);
        fault("iron a strokes 0;iron b strokes 0;iron a strokes 1;", 3, 39);
        fault("herd a strokes 0;beast a of a;beast a of a;", 3, 36);
        fault("herd a strokes 0 1 0;", 3, 19);
        fault("iron a strokes 5 05;", 3, 17);
        fault("herd a strokes 0 1 2 3 4 5 6 7 8 9 10 11 11;", 3, 41);
    }

    private static void badNumbers() {
        fault("turns 0;", 4, 6);
        fault("turns 3;", 4, 6);
        fault("turns 5;", 4, 6);
        fault("turns 8;", 4, 6);
        fault("herd a strokes 12;", 4, 15);
        fault("iron a strokes 0 9999;", 4, 17);
        fault("night 101;", 4, 6);
        fault("draw 1000;", 4, 5);
        fault("herd a strokes 0;beast b of a born 100;", 4, 35);
    }

    private static void noSuchHerd() {
        fault("beast a of a;", 5, 11);
        fault("herd b strokes 0;beast a of a;", 5, 28);
        fault("iron a strokes 0;beast a of a;herd a strokes 0;", 5, 28);
    }

    private static void firstOfTwo() {
        fault("turns 3 ?", 4, 6);
        fault("turns 3?", 4, 6);
        fault("turns 3x", 1, 6);
        fault("herd a strokes 12 ?", 4, 15);
        fault("herd a strokes 0 0?", 3, 17);
        fault("beast a of a?", 5, 11);
        fault("abc ?", 2, 0);
        fault("mirror;mirror?", 2, 7);
    }

    private static void allStaysBehindAFault() {
        HideReader reader = Checks.told("turns 2;herd a strokes 0 1;iron i strokes 2;beast b of a born 3;night 40;draw 7;");
        reader.season();
        reader.chain();
        reader.image(1);
        reader.seen(1, 2, true);
        Checks.feed(reader, "herd q strokes 3;turns 3;");
        CHECKS.due("valley() of turns 3", reader.valley(), -1);
        int[] about = {1, 1, 1, 2, 1, 30, 1, 0, 1, 0, 25, 0, 1, 40, 2};
        for (int i = 0; i < about.length; i++) {
            CHECKS.due("about(" + i + ") behind a fault", reader.about(i), about[i]);
        }
        CHECKS.due("brand(0) behind a fault", reader.brand(0), 3);
        CHECKS.due("back(1) behind a fault", reader.back(1), 1);
        CHECKS.due("fault(0)", reader.fault(0), 4);
        CHECKS.due("end(17)", reader.end(17), 17);
        CHECKS.due("valley() of what is left", reader.valley(), 1);
        CHECKS.due("brand(0) of what is left", reader.brand(0), 8);
    }
}
