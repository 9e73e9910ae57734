/** The edges of the formula behind shows: its units, how deep it goes, its numbers, and when a STROKE SHOWS by it. */
public final class FormulaEdgesTest {
    private static final Checks CHECKS = new Checks();
    private static final String BEASTS = "herd a strokes 0 5 11;herd b strokes 3;iron i strokes 3 5;beast x of a born 7;beast y of b;";
    private static final int ALL = Checks.bits(0, 5, 11);

    public static void main(String[] args) {
        whatCanStand();
        mostUnits();
        unitsInBrackets();
        mostWithin();
        besideIsNotWithin();
        wrapping();
        dividing();
        relations();
        andOrNot();
        orderOfWorking();
        notTold();
        facts();
        shownByEachStroke();
        longestFormulas();
        CHECKS.close("FormulaEdgesTest");
    }

    private static void fault(String formula, int kind, int place) {
        CHECKS.fault("shows " + formula, kind, place + 6);
    }

    private static void fine(String formula) {
        CHECKS.fine("shows " + formula + ";");
    }

    private static void due(String what, long got, long want) {
        CHECKS.due(what, got, want);
    }

    private static HideReader shows(String formula) {
        return Checks.told(BEASTS + "shows " + formula + ";");
    }

    private static void holds(String formula) {
        due("what SHOWS by " + formula, shows(formula).beast(0, 1), ALL);
    }

    private static void fails(String formula) {
        due("what SHOWS by " + formula, shows(formula).beast(0, 1), 0);
    }

    private static void whatCanStand() {
        for (String unit : new String[] {"0", "9999", "age", "scars", "stroke", "born", "season", "(1)", "(not 1)", "(1 or 2)", "((1))"}) {
            fine(unit);
            fine("not " + unit);
            for (String sign : new String[] {"+", "-", "*", "/", "%", "<", ">", "=", " and ", " or "}) {
                fine(unit + sign + unit);
                fault(unit + sign, 2, unit.length() + sign.length());
                fault(unit + sign + ";", 2, unit.length() + sign.length());
                fault(unit + sign + ")", 2, unit.length() + sign.length());
            }
            for (String relation : new String[] {"<", ">", "="}) {
                fault(unit + "+1" + relation + unit + "-1" + relation + "3;", 2, 2 * unit.length() + 5);
                fault(unit + relation + "not 1;", 2, unit.length() + 1);
                fine("not " + unit + relation + unit);
                fine(unit + relation + "(" + unit + relation + unit + ")");
            }
            fault(unit + " 1;", 2, unit.length() + 1);
            fault(unit + " not 1;", 2, unit.length() + 1);
            fault(unit + ")", 2, unit.length());
            fault("(" + unit + ";", 2, unit.length() + 1);
            fault("(" + unit + "(", 2, unit.length() + 1);
        }
        for (String sign : new String[] {"+", "-", "*", "/", "%", "<", ">", "=", ")", ";", "and", "or"}) {
            fault(sign + " 1;", 2, 0);
            fault("(" + sign + " 1;", 2, 1);
            fault("not " + sign + " 1;", 2, 4);
        }
        fault("()", 2, 1);
        fault("1 <> 2;", 2, 3);
        fault("1 == 2;", 2, 3);
        fault("1 - -2;", 2, 4);
        fault("3 + not 1;", 2, 4);
        fault("3 * not 1;", 2, 4);
        fine("1 and not 1 or not 2");
    }

    /** "30 in one e"; "a unit too many: at its first TOKEN". */
    private static void mostUnits() {
        for (String sign : new String[] {"+", "-", "*", "/", "%", " and ", " or "}) {
            for (int n = 1; n <= 30; n++) {
                due("about(11), " + n + " units by" + sign, Checks.told("shows 7" + (sign + "7").repeat(n - 1) + ";").about(11), n);
            }
            int place = 30 * (1 + sign.length());
            fault("7" + (sign + "7").repeat(30) + ";", 2, place);
            fault("7" + (sign + "7").repeat(40) + ";", 2, place);
            fault("7" + (sign + "7").repeat(29) + sign + "age;", 2, place);
            fault("7" + (sign + "7").repeat(29) + sign + "(7);", 2, place);
            fault("7" + (sign + "7").repeat(29) + sign + ";", 2, place);
            fault("7" + (sign + "7").repeat(29) + sign + "?", 1, place);
            fault("7" + (sign + "7").repeat(29) + sign, 2, place);
        }
        fine("not 1" + " and not 1".repeat(29));
        fault("not 1" + " and not 1".repeat(29) + " and not 1;", 2, 30 * 10 - 1 + 5);
        fine("1<2" + " or 1<2".repeat(14));
        fault("1<2" + " or 1<2".repeat(14) + " or 1<2;", 2, 3 + 14 * 7 + 4);
        fine("2" + "+2".repeat(27) + "<3" + "*3");
        fault("2" + "+2".repeat(28) + "<3" + "*3;", 2, 60);
        due("about(11) without shows", Checks.told("mirror;").about(11), 0);
        due("about(11) of a new object", new HideReader().about(11), 0);
        HideReader reader = Checks.told("shows 1+2;");
        Checks.feed(reader, "shows 1+2+3;?");
        reader.valley();
        due("about(11) behind a fault", reader.about(11), 2);
        reader.end(0);
        reader.valley();
        due("about(11) behind an empty text", reader.about(11), 0);
    }

    /** A unit ( e ) is a unit, and so are those in it. */
    private static void unitsInBrackets() {
        due("about(11) of (1)", Checks.told("shows (1);").about(11), 2);
        due("about(11) of ((1))", Checks.told("shows ((1));").about(11), 3);
        due("about(11) of (1+2)*(3)", Checks.told("shows (1+2)*(3);").about(11), 5);
        due("about(11) of not (not 1)", Checks.told("shows not (not 1);").about(11), 2);
        due("about(11) of 15 brackets", Checks.told("shows (1)" + "+(1)".repeat(14) + ";").about(11), 30);
        fault("(1)" + "+(1)".repeat(14) + "+1;", 2, 3 + 4 * 14 + 1);
        fault("(1)" + "+(1)".repeat(15) + ";", 2, 3 + 4 * 14 + 1);
        fine("1+(1" + "+1".repeat(27) + ")");
        fault("1+(1" + "+1".repeat(28) + ");", 2, 4 + 2 * 28 - 1);
        fault("1" + "+1".repeat(28) + "+(1);", 2, 60 - 1);
    }

    /** "a unit ( e ), or a one behind not, within 6 others at most"; "what is within 7 others: at its first TOKEN, or the not". */
    private static void mostWithin() {
        for (int depth = 1; depth <= 9; depth++) {
            for (int pattern = 0; pattern < 1 << depth; pattern++) {
                StringBuilder s = new StringBuilder();
                StringBuilder behind = new StringBuilder();
                int eighth = 0;
                for (int i = 0; i < depth; i++) {
                    eighth = i == 7 ? s.length() : eighth;
                    boolean isNot = (pattern >> i & 1) == 1;
                    s.append(isNot ? "not " : "(");
                    behind.append(isNot ? "" : ")");
                }
                String formula = s + "age" + behind;
                if (depth <= 7) {
                    fine(formula);
                } else {
                    fault(formula + ";", 2, eighth);
                }
            }
        }
    }

    private static void besideIsNotWithin() {
        String deep = "(((((((1)))))))";
        fine(deep + " or " + deep);
        fine("1 < " + deep + " and not not not not not not not 1");
        fine("(1)+(1)+(1)+(1)+(1)+(1)+(1)+(1)+(1)");
        fine("not 1 and not 1 and not 1 and not 1 and not 1 and not 1 and not 1 and not 1");
        fine("((((((1)+(1)+(1))))))");
        fault("((((((1)+(1)+((1)))))))", 2, 23);
        fault("((((((1)+(1)+(((1))))))))", 2, 15);
        fine("not not not not not not (1) + (1)");
        fine("((((((not 1))))))");
        fine("(((((((1)))))) < 2)");
        fault("(((((((not 1)))))));", 2, 7);
        fault("not not not not not not not (1);", 2, 28);
    }

    /** "ints, wrapping". */
    private static void wrapping() {
        String least = "256*256*256*128";
        holds(least + " < 0");
        holds(least + " - 1 > 0");
        holds("256*256*256*256 = 0");
        fails("256*256*256*256");
        holds("(" + least + " - 1) + 1 = " + least);
        holds("0 - " + least + " = " + least);
        holds("(" + least + ") + (" + least + ") = 0");
        holds("9999*9999*9999 < 0");
        holds("9999*9999*21 = 9999*9999*20 + 9999*9999");
        holds("0 - 1 < 0");
        holds("0 - 1");
        holds(least);
        holds("(" + least + " - 1) * 2 = 0 - 2");
    }

    /** "/ cut, % its rest, both by 0: 0". */
    private static void dividing() {
        String least = "(256*256*256*128)";
        String[] right = {"7/2 = 3", "(0-7)/2 = 0-3", "7/(0-2) = 0-3", "(0-7)/(0-2) = 3", "7%2 = 1", "(0-7)%2 = 0-1", "7%(0-2) = 1", "(0-7)%(0-2) = 0-1",
            "6%3 = 0", "0/5 = 0", "0%5 = 0", "5/0 = 0", "5%0 = 0", "0/0 = 0", "0%0 = 0", "(0-5)/0 = 0", "(0-5)%0 = 0", least + "/0 = 0", least + "%0 = 0",
            "1/2 = 0", "1%2 = 1", "(0-1)/2 = 0", "(0-1)%2 = 0-1", least + "/(0-1) = " + least, least + "%(0-1) = 0", "9999/1 = 9999", "9999%1 = 0",
            "1/0*9 = 0", "7/(season*5) = 0", "7%(season*5) = 0", "1 + 1/0 = 1"};
        for (String formula : right) {
            holds(formula);
        }
        fails("5/0");
        fails("5%0");
        fails("4/5");
        holds("not 5/0");
    }

    private static void relations() {
        String[] right = {"1<2", "2>1", "2=2", "0-1<0", "0>0-1", "(1<2)=1", "(2<1)=0", "(2>1)=1", "(1>2)=0", "(2=2)=1", "(2=3)=0", "(1<2)+(1<2)=2",
            "9998<9999", "256*256*256*128 < 256*256*256*128-1"};
        for (String formula : right) {
            holds(formula);
        }
        for (String formula : new String[] {"2<2", "2>2", "2<1", "1>2", "1=2", "2=1", "0<0-1", "9999=9998"}) {
            fails(formula);
        }
    }

    /** "relations, and, or, not are 1 or 0, of what is not 0". */
    private static void andOrNot() {
        String[] right = {"(7 and 9)=1", "(0-7 and 9)=1", "(0 and 9)=0", "(9 and 0)=0", "(0 and 0)=0", "(7 or 9)=1", "(0 or 9)=1", "(9 or 0)=1", "(0 or 0)=0",
            "(0 or 0-9)=1", "(not 0)=1", "(not 1)=0", "(not 7)=0", "(not 0-7)=0", "(not not 7)=1", "(1 and 2 and 4)=1", "(1 and 2 and 0)=0", "(0 or 0 or 4)=1",
            "(2 and 1)=1", "(2 or 4)=1"};
        for (String formula : right) {
            holds(formula);
        }
        fails("1 and 2 and 0");
        fails("not 0-1");
        fails("0 or 0 or 0");
    }

    private static void orderOfWorking() {
        String[] right = {"2+3*4=14", "(2+3)*4=20", "9-3-2=4", "9-(3-2)=8", "64/4/4=4", "64/(4/4)=64", "17%10%4=3", "2*7%4=2", "2*(7%4)=6", "7%4*2=6", "8/2*3=12",
            "8/(2*3)=1", "10-4+3=9", "10-(4+3)=3", "1+2<4", "1 or 1 and 0", "1 or (1 and 0)", "0 and 0 or 1", "not 0 and 1", "not 1 = 2", "(not 1)=0",
            "not 1 or 1", "not 0 or 0", "not 1 < 1", "2 < 1+2", "3 = 1+2 and 4 > 3", "not (1 and 0)", "0 = (not 1)"};
        for (String formula : right) {
            holds(formula);
        }
        for (String formula : new String[] {"(1 or 1) and 0", "not 1 and 0", "not (1 or 0)", "0 and (0 or 1)", "not 1 or 0", "not 2 = 2", "not 1 + 1"}) {
            fails(formula);
        }
    }

    /** "what comes of shows (1, if it is not told)". */
    private static void notTold() {
        HideReader reader = Checks.told(BEASTS);
        due("beast(0, 1)", reader.beast(0, 1), ALL);
        due("beast(1, 1)", reader.beast(1, 1), 8);
        due("will(60)", reader.will(60), 4);
        due("law(99)", reader.law(99), 4);
        due("fades(0)", reader.fades(0), -1);
        due("read(0)", reader.read(0), 1);
        // A formula of the valley before is gone.
        HideReader other = shows("0");
        due("beast(0, 1) by 0", other.beast(0, 1), 0);
        Checks.feed(other, BEASTS);
        other.valley();
        due("beast(0, 1), not told any more", other.beast(0, 1), ALL);
        // A shorter one behind a longer one.
        HideReader shorter = shows("not 0 and 1");
        Checks.feed(shorter, BEASTS + "shows 1;");
        shorter.valley();
        due("beast(0, 1) by the shorter one", shorter.beast(0, 1), ALL);
    }

    /** age, scars, stroke, born, season, each as it is now. */
    private static void facts() {
        HideReader r = shows("age = 7 and scars = 3 and born = 7 and season = 0");
        due("at first", r.beast(0, 1), ALL);
        due("another beast's", r.beast(1, 1), 0);
        r.season();
        due("a season later", r.beast(0, 1), 0);
        r.undo();
        due("undone", r.beast(0, 1), ALL);
        r.burn(0, 0, 0);
        due("one scar more", r.beast(0, 1), 0);
        HideReader age = shows("age = 1");
        age.burn(0, 0, 0);
        due("age of what came", age.beast(0, 1), 0);
        age.season();
        due("age of what came, a season ago", age.beast(0, 1), 8);
        age.season();
        due("age of what came, two seasons ago", age.beast(0, 1), 0);
        HideReader born = shows("born = 7");
        born.season();
        born.clean(0);
        due("born stays as told", born.beast(0, 1), ALL);
        due("age behind cleaning", born.age(0, 0), 0);
        HideReader season = shows("season");
        due("season 0", season.beast(0, 1), 0);
        season.season();
        due("season 1", season.beast(0, 1), ALL);
        due("season 1, of another beast", season.beast(1, 1), 8);
        HideReader scars = shows("scars > 3");
        due("three scars", scars.beast(0, 1), 0);
        scars.burn(0, 0, 0);
        due("four scars", scars.beast(0, 1), ALL | 8);
        HideReader sold = shows("born");
        sold.sell(0, 1);
        due("born of a beast that was sold", sold.beast(0, 1), ALL);
    }

    private static void shownByEachStroke() {
        String all = "herd a strokes 0 1 2 3 4 5 6 7 8 9 10 11;beast x of a;";
        for (int n = 0; n <= 12; n++) {
            due("stroke = " + n, Checks.told(all + "shows stroke = " + n + ";").beast(0, 1), 1 << n & 4095);
            due("stroke < " + n, Checks.told(all + "shows stroke < " + n + ";").beast(0, 1), (1 << n) - 1);
            due("stroke - " + n, Checks.told(all + "shows stroke - " + n + ";").beast(0, 1), 4095 & ~(1 << n));
        }
        due("stroke not on the HIDE", shows("stroke = 1").beast(0, 1), 0);
        due("scars of a full HIDE", Checks.told(all + "shows scars = 12;").beast(0, 1), 4095);
    }

    /** As many units and nots as can be, and as much that waits for what is in brackets: the innermost and the last still count. */
    private static void longestFormulas() {
        String nots = "not not not not not not not ";
        holds((nots + "1 or ").repeat(29) + nots + "0");
        fails((nots + "1 or ").repeat(29) + nots + "1");
        holds((nots + "0 and ").repeat(29) + nots + "0");
        fails((nots + "0 and ").repeat(29) + nots + "1");
        String open = "0 or 1 and 1<1+1*(";
        holds(open.repeat(4) + "0 or 1 and 1<1+1*2" + "))))");
        fails(open.repeat(4) + "0 or 1 and 1<1+1*0" + "))))");
        holds("1 - (1 - (1 - (1 - (1 - (1 - (1 - 0))))))");
        fails("1 - (1 - (1 - (1 - (1 - (1 - (1 - (1 - 0)))))))");
        due("units of the longest", shows((nots + "1 or ").repeat(29) + nots + "0").about(11), 30);
    }
}
