import java.util.Random;

/** Makes valleys' texts, right ones and wrong ones, always the same ones from the same seed. */
final class TextMaker {
    private static final String[] TOKENS = {"turns", "mirror", "herd", "strokes", "iron", "beast", "of", "born", "shows", "night", "draw",
        "or", "and", "not", "age", "scars", "stroke", "season", "a", "b", "zebra", "longname", "toolongname", "0", "1", "3", "4", "11", "12",
        "100", "101", "999", "1000", "9999", "10000", "7x", ";", "(", ")", "<", ">", "=", "+", "-", "*", "/", "%", "&", "A", "\t", "\u00e9"};
    private static final String[] FACTS = {"age", "scars", "stroke", "born", "season"};

    private final Random random;
    private int unitsLeft;

    TextMaker(Random random) {
        this.random = random;
    }

    String any() {
        int kind = random.nextInt(10);
        if (kind < 4) return right();
        if (kind < 8) return spoiled(right());
        if (kind == 8) return tokens(random.nextInt(30));
        return "shows " + overfull() + ";" + right();
    }

    private int roll(int n) {
        return random.nextInt(n);
    }

    private String gap() {
        return roll(6) == 0 ? "\n" : roll(8) == 0 ? "  " : " ";
    }

    /** Without a fault. */
    String right() {
        StringBuilder s = new StringBuilder();
        if (roll(4) != 0) s.append("turns").append(roll(3) == 0 ? "" : gap()).append(new int[] {1, 2, 4}[roll(3)]).append(";");
        if (roll(2) == 0) s.append(gap()).append("mirror ;");
        int irons = roll(5) == 0 ? roll(7) : 1 + roll(4);
        int ironSize = 1 + roll(roll(3) == 0 ? 6 : 3);
        int[] ironMarks = new int[irons];
        for (int i = 0; i < irons; i++) ironMarks[i] = mark(ironSize);
        int herds = roll(5) == 0 ? roll(9) : 2 + roll(4);
        int largest = 2 + roll(roll(3) == 0 ? 11 : 5);
        int[] brands = new int[herds];
        for (int h = 0; h < herds; h++) {
            brands[h] = mark(largest);
            // Brands that are burned over others, so that some can be made into some.
            if (h > 0 && irons > 0 && roll(2) == 0) brands[h] = brands[roll(h)] | ironMarks[roll(irons)] | ironMarks[roll(irons)];
            s.append("herd").append(gap()).append("h").append((char) ('a' + h)).append(strokes(brands[h]));
        }
        for (int i = 0; i < irons; i++) s.append("iron ").append((char) ('a' + i)).append(strokes(ironMarks[i])).append(gap());
        int beasts = herds == 0 ? 0 : roll(5) == 0 ? roll(9) : 1 + roll(5);
        for (int b = 0; b < beasts; b++) {
            s.append("beast ").append((char) ('h' + b)).append(" of h").append((char) ('a' + roll(herds)));
            if (roll(2) == 0) s.append(" born ").append(roll(4) == 0 ? roll(100) : roll(8));
            s.append(";");
        }
        unitsLeft = 1 + roll(25);
        if (roll(4) != 0) s.append("shows ").append(formula(1 + roll(4))).append(gap()).append(";");
        if (roll(3) != 0) s.append("night ").append(roll(4) == 0 ? 100 : roll(101)).append(";");
        if (roll(2) != 0) s.append("draw ").append(roll(1000)).append(";");
        return s.length() > 1600 ? right() : s.toString();
    }

    private int mark(int largest) {
        int mark = 0;
        for (int i = 1 + roll(largest); i > 0; i--) mark |= 1 << roll(12);
        return mark;
    }

    private String strokes(int mark) {
        StringBuilder s = new StringBuilder(" strokes");
        int from = roll(12);
        for (int i = 0; i < 12; i++) {
            int stroke = (from + i) % 12;
            if ((mark >> stroke & 1) == 1) s.append(gap()).append(roll(9) == 0 ? "0" : "").append(stroke);
        }
        return s.append(";").toString();
    }

    private String formula(int depth) {
        if (depth <= 0) return unit(0);
        switch (roll(6)) {
            case 0: return formula(depth - 1) + " or " + formula(depth - 1);
            case 1: return formula(depth - 1) + " and " + formula(depth - 1);
            case 2: return "not " + relation(depth - 1);
            default: return relation(depth - 1);
        }
    }

    private String relation(int depth) {
        if (roll(4) == 0) return sum(depth);
        return sum(depth) + new String[] {"<", ">", "=", " < "}[roll(4)] + sum(depth);
    }

    private String sum(int depth) {
        StringBuilder s = new StringBuilder(unit(depth));
        for (int i = roll(3); i > 0; i--) s.append(new String[] {"+", "-", " * ", "/", "%"}[roll(5)]).append(unit(depth));
        return s.toString();
    }

    private String unit(int depth) {
        unitsLeft--;
        if (depth > 0 && unitsLeft > 4 && roll(4) == 0) return "(" + formula(depth - 1) + ")";
        if (roll(2) == 0) return FACTS[roll(5)];
        return String.valueOf(roll(5) == 0 ? roll(10000) : roll(12));
    }

    private String spoiled(String text) {
        StringBuilder s = new StringBuilder(text);
        for (int i = 1 + roll(2); i > 0; i--) {
            int at = roll(s.length() + 1);
            switch (roll(4)) {
                case 0: s.insert(at, TOKENS[roll(TOKENS.length)]); break;
                case 1: s.delete(at, Math.min(s.length(), at + 1 + roll(6))); break;
                case 2: s.insert(at, " " + TOKENS[roll(TOKENS.length)] + " "); break;
                default: s.setLength(at);
            }
        }
        if (roll(5) == 0) s.append(right());
        return s.length() > 1600 ? s.substring(0, 1600) : s.toString();
    }

    private String tokens(int count) {
        StringBuilder s = new StringBuilder();
        for (int i = 0; i < count; i++) s.append(TOKENS[roll(TOKENS.length)]).append(roll(5) == 0 ? "" : " ");
        return s.toString();
    }

    /** About as many units, or as deep, as may be, and a little more. */
    private String overfull() {
        StringBuilder s = new StringBuilder();
        if (roll(2) == 0) {
            int count = 28 + roll(5);
            for (int i = 0; i < count; i++) {
                s.append(i == 0 ? "" : new String[] {"+", " and ", " or ", "*"}[roll(4)]).append(roll(8) == 0 ? "(1)" : "age");
            }
            return s.toString();
        }
        int deep = 5 + roll(5);
        int open = 0;
        for (int i = 0; i < deep; i++) {
            boolean isNot = roll(2) == 0;
            s.append(isNot ? " not " : "(");
            open += isNot ? 0 : 1;
        }
        s.append("age > 2");
        for (int i = 0; i < open; i++) s.append(")");
        return s.toString();
    }
}
