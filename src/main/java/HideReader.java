import java.util.Arrays;

/**
 * Reads a valley's text (herds, irons, beasts) and answers what can be asked of its brands and hides.
 * Every array is made in a constructor and used again, so that no later call makes an object.
 */
public final class HideReader {
    public static final int NONE = -1;

    private static final int MOST_BYTES = 1600;
    private static final int MOST_HERDS = 8;
    private static final int MOST_IRONS = 6;
    private static final int MOST_BEASTS = 8;
    private static final int MOST_WAYS = 8;
    private static final int MOST_ACTS = 40;
    private static final int MOST_SEEN = 30;
    private static final int MOST_TIME = 100000;
    private static final int MOST_SEASONS = 999;
    private static final int MOST_AGE = 999;
    private static final int MOST_BURNINGS = 4;
    private static final int MOST_AHEAD = 60;
    private static final int BOXES = 3;
    private static final int STROKES = 12;
    private static final int MARKS = 1 << STROKES;
    private static final int FULL_MARK = MARKS - 1;

    private final Tape tape;
    private final Valley told;
    private final Valley draft;
    private final TextReader reader;
    private final Lattice lattice;
    private final Smith smith;
    private final History history;
    private final Book book;
    private final Beasts beasts;
    private final Witness witness;
    private final int[] lying = new int[MOST_HERDS + 2 * MOST_BURNINGS];
    private int lyingCount = 0;

    public HideReader() {
        tape = new Tape();
        told = new Valley();
        draft = new Valley();
        reader = new TextReader(tape, draft);
        lattice = new Lattice();
        smith = new Smith(lattice);
        history = new History();
        book = new Book(told, lattice, smith);
        beasts = new Beasts(told, lattice, smith);
        witness = new Witness(told, smith);
    }

    public int feed(int a, int b, int c, int d, int e) {
        if (tape.length() + 20 > MOST_BYTES) {
            return NONE;
        }
        tape.addNumber(a);
        tape.addNumber(b);
        tape.addNumber(c);
        tape.addNumber(d);
        tape.addNumber(e);
        return tape.length();
    }

    public int end(int n) {
        if (n < 0 || n > tape.length()) {
            return NONE;
        }
        tape.cutTo(n);
        return n;
    }

    public int valley() {
        if (!reader.readAll()) {
            return NONE;
        }
        tape.cutTo(0);
        told.copyFrom(draft);
        lattice.choose(told.turns, told.mirror);
        smith.layOut(told);
        book.compareBrands();
        history.restart(told);
        witness.forget();
        lyingCount = 0;
        return told.herds;
    }

    public int fault(int what) {
        if (what == 0) {
            return tape.faultKind();
        }
        return what == 1 ? tape.faultPlace() : NONE;
    }

    public int brand(int herd) {
        return isHerd(herd) ? told.brands[herd] : NONE;
    }

    public int iron(int iron) {
        return isIron(iron) ? told.ironMarks[iron] : NONE;
    }

    public int beast(int beast, int what) {
        if (!isBeast(beast)) {
            return NONE;
        }
        Pasture now = history.now();
        switch (what) {
            case 0: return now.hides[beast];
            case 1: return beasts.showing(now, beast, 0);
            case 2: return now.owners[beast];
            case 3: return told.homes[beast];
            case 4: return told.births[beast];
            case 5: return Integer.bitCount(now.hides[beast]);
            default: return NONE;
        }
    }

    public int age(int beast, int stroke) {
        if (!isBeast(beast) || !isStroke(stroke)) {
            return NONE;
        }
        return history.now().ageOf(beast, stroke);
    }

    public int placed(int mark, int placement) {
        if (!isMark(mark) || !isPlacement(placement)) {
            return NONE;
        }
        return lattice.moved(mark, placement);
    }

    public int under(int mark, int other) {
        if (!isMark(mark) || !isMark(other)) {
            return NONE;
        }
        return lattice.fits(mark, other) ? 1 : 0;
    }

    public int season() {
        if (history.now().seasons >= MOST_SEASONS) {
            return NONE;
        }
        Pasture next = history.beginAct();
        next.growOld();
        return next.passNights(told);
    }

    public int burn(int beast, int iron, int placement) {
        if (!isBeast(beast) || !isIron(iron) || !isPlacement(placement)) {
            return NONE;
        }
        return history.beginAct().addStrokes(beast, smith.placedIron(iron, placement));
    }

    public int sell(int beast, int herd) {
        if (!isBeast(beast) || !isHerd(herd) || history.now().owners[beast] == herd) {
            return NONE;
        }
        Pasture next = history.beginAct();
        int before = next.owners[beast];
        next.owners[beast] = herd;
        return before;
    }

    public int clean(int beast) {
        if (!isBeast(beast)) {
            return NONE;
        }
        Pasture next = history.beginAct();
        int brand = brand(told.homes[beast]);
        int gone = Integer.bitCount(next.hides[beast] & ~brand);
        next.rebrand(beast, brand, 0);
        return gone;
    }

    public boolean undo() {
        return history.stepBack();
    }

    public boolean redo() {
        return history.stepOn();
    }

    public int make(int mark, int other) {
        if (!isMark(mark) || !isMark(other)) {
            return NONE;
        }
        return smith.fewest(mark, other);
    }

    public int forge(int beast, int herd) {
        lyingCount = 0;
        if (!isBeast(beast) || !isHerd(herd)) {
            return NONE;
        }
        int hide = history.now().hides[beast];
        int count = smith.fewest(hide, told.brands[herd]);
        if (count > 0) {
            lyingCount = smith.firstRow(hide, told.brands[herd], count, lying);
        }
        return count;
    }

    public int chain() {
        lyingCount = book.longestChain(lying);
        return lyingCount;
    }

    public int lowest() {
        return book.bottomHerds();
    }

    public int highest() {
        return book.topHerds();
    }

    public int fresh() {
        return book.freshMark();
    }

    public int origins(int beast) {
        return isBeast(beast) ? beasts.originHerds(history.now(), beast) : NONE;
    }

    public int read(int beast) {
        return isBeast(beast) ? beasts.readHerds(history.now(), beast) : NONE;
    }

    public int claim(int herd) {
        return isHerd(herd) ? beasts.claimedBy(history.now(), herd) : NONE;
    }

    public int safe() {
        return book.safeHerds();
    }

    public int king(int what) {
        if (told.herds == 0 || !isPart(what)) {
            return NONE;
        }
        int herd = book.kingHerd();
        return what == 0 ? herd : book.makersOf(herd);
    }

    public int tempt(int beast, int what) {
        if (!isBeast(beast) || !isPart(what)) {
            return NONE;
        }
        int herd = beasts.temptedHerd(history.now(), beast);
        if (herd == NONE || what == 0) {
            return herd;
        }
        return smith.fewest(history.now().hides[beast], brand(herd));
    }

    public int useful() {
        return book.usefulIrons();
    }

    public int nearest(int mark, int what) {
        if (told.herds == 0 || !isMark(mark) || !isPart(what)) {
            return NONE;
        }
        int herd = book.nearestHerd(mark);
        return what == 0 ? herd : lattice.leastDifference(brand(herd), mark);
    }

    public int shared(int herd, int other) {
        if (!isHerd(herd) || !isHerd(other)) {
            return NONE;
        }
        return lattice.mostCommon(told.brands[herd], told.brands[other]);
    }

    public int fades(int beast) {
        return isBeast(beast) ? beasts.fadesBehind(history.now(), beast) : NONE;
    }

    public int twins() {
        return book.twinCount();
    }

    public int untouched() {
        return beasts.untouchedStrokes(history.now());
    }

    public int tells() {
        return beasts.tellingStroke(history.now());
    }

    public int raid(int herd, int other) {
        lyingCount = 0;
        if (!isHerd(herd) || !isHerd(other) || herd == other || told.beasts == 0) {
            return NONE;
        }
        int rests = beasts.countRests(history.now(), herd, other, lying);
        lyingCount = rests > 0 ? 2 : 0;
        return rests;
    }

    public int closed() {
        return book.isClosed() ? 1 : 0;
    }

    public int faces(int mark) {
        return isMark(mark) ? lattice.unlikePlacements(mark) : NONE;
    }

    public int norm(int mark) {
        return isMark(mark) ? lattice.least(mark) : NONE;
    }

    public int strays() {
        return beasts.strayBeasts(history.now());
    }

    public int oldest(int beast) {
        return isBeast(beast) ? history.now().oldestAge(beast) : NONE;
    }

    public int will(int n) {
        return n >= 0 && n <= MOST_AHEAD ? beasts.showingBehind(history.now(), n) : NONE;
    }

    public int law(int n) {
        return n >= 0 && n <= 99 ? beasts.showingAtAge(history.now(), n) : NONE;
    }

    public int odds(int n, int part) {
        if (n < 0 || n > 4 || !isPart(part)) {
            return NONE;
        }
        int quiet = 100 - told.night;
        // Reduced before they are raised, the powers are in lowest terms and within an int.
        int base = withoutCommon(part == 0 ? quiet : 100, quiet);
        int power = 1;
        for (int i = 0; i < n; i++) {
            power *= base;
        }
        return power;
    }

    public int lies(int i) {
        return i >= 0 && i < lyingCount ? lying[i] : NONE;
    }

    public int seen(int burning, int stroke, boolean is) {
        if (!isBurning(burning) || !isStroke(stroke) || told.beasts == 0) {
            return NONE;
        }
        return witness.tell(burning, stroke, is);
    }

    public boolean untell(int seen) {
        return witness.takeBack(seen);
    }

    public int later(int by) {
        return by >= 0 && by <= 1000 ? witness.goOn(by) : NONE;
    }

    public int rows(int k) {
        return witness.countRows(k);
    }

    public int sure(int burning, int k) {
        return isBurning(burning) ? witness.sureIron(burning, k) : NONE;
    }

    public int ask(int what, int k) {
        if (!isPart(what) || witness.countRows(k) == 0) {
            return NONE;
        }
        int first = witness.mostLeft(1);
        int second = witness.mostLeft(2);
        if (what == 1) {
            return Math.min(first, second);
        }
        return second < first ? 2 : 1;
    }

    public int image(int box) {
        return isBox(box) ? history.keep(box) : NONE;
    }

    public int back(int box) {
        return isBox(box) ? history.bringBack(box) : NONE;
    }

    public int about(int what) {
        switch (what) {
            case 0: return told.herds;
            case 1: return told.irons;
            case 2: return told.beasts;
            case 3: return lattice.placements();
            case 4: return history.now().seasons;
            case 5: return history.now().seed;
            case 6: return history.undoable();
            case 7: return history.redoable();
            case 8: return witness.count();
            case 9: return witness.time();
            case 10: return tape.length();
            case 11: return told.shows.units();
            case 12: return lyingCount;
            case 13: return told.night;
            case 14: return told.turns;
            default: return NONE;
        }
    }

    private boolean isHerd(int herd) {
        return herd >= 0 && herd < told.herds;
    }

    private boolean isIron(int iron) {
        return iron >= 0 && iron < told.irons;
    }

    private boolean isBeast(int beast) {
        return beast >= 0 && beast < told.beasts;
    }

    private boolean isPlacement(int placement) {
        return placement >= 0 && placement < lattice.placements();
    }

    private static boolean isStroke(int stroke) {
        return stroke >= 0 && stroke < STROKES;
    }

    private static boolean isMark(int mark) {
        return mark >= 0 && mark < MARKS;
    }

    private static boolean isBurning(int burning) {
        return burning == 1 || burning == 2;
    }

    private static boolean isBox(int box) {
        return box >= 0 && box < BOXES;
    }

    private static boolean isPart(int part) {
        return part == 0 || part == 1;
    }

    /** A number, less the greatest divisor that the quiet nights have in common with the hundred. */
    private static int withoutCommon(int number, int quiet) {
        for (int d = 100; d > 1; d--) {
            if (quiet % d == 0 && 100 % d == 0) {
                return number / d;
            }
        }
        return number;
    }

    /** The bytes that were fed, and the token at hand while they are read. */
    private static final class Tape {
        static final int NO_TOKEN = 1;
        static final int MISPLACED = 2;
        static final int TOLD_ALREADY = 3;
        static final int BAD_NUMBER = 4;
        static final int NO_SUCH_HERD = 5;

        // Signs are their own kinds; words begin behind them.
        static final int WORD = 128;
        static final int TURNS = WORD;
        static final int MIRROR = WORD + 1;
        static final int HERD = WORD + 2;
        static final int IRON = WORD + 3;
        static final int BEAST = WORD + 4;
        static final int SHOWS = WORD + 5;
        static final int NIGHT = WORD + 6;
        static final int DRAW = WORD + 7;
        static final int STROKES_WORD = WORD + 8;
        static final int OF = WORD + 9;
        static final int OR = WORD + 10;
        static final int AND = WORD + 11;
        static final int NOT = WORD + 12;
        static final int AGE = WORD + 13;
        static final int BORN = WORD + 16;
        static final int SEASON = WORD + 17;
        static final int NAME = 200;
        static final int NUMBER = 201;
        static final int END = 202;
        static final int STOP = 203;

        // In the order of the kinds above, each filled up with blanks to the width.
        private static final String WORDS =
            "turns   mirror  herd    iron    beast   shows   night   draw    strokes of      or      and     not     age     scars   stroke  born    season  ";
        private static final int WORD_WIDTH = 8;
        private static final int WORD_COUNT = 18;
        private static final int MOST_DIGITS = 4;
        private static final String SIGNS = ";()<>=+-*/%";

        private final byte[] bytes = new byte[MOST_BYTES];
        private final long[] wordNames = new long[WORD_COUNT];
        private int length = 0;
        private int next = 0;
        private int kind = END;
        private int place = 0;
        private int number = 0;
        private long name = 0;
        private int faultKind = 0;
        private int faultPlace = NONE;

        Tape() {
            for (int i = 0; i < WORD_COUNT * WORD_WIDTH && i < WORDS.length(); i++) {
                char letter = WORDS.charAt(i);
                int word = i / WORD_WIDTH;
                wordNames[word] = letter == ' ' ? wordNames[word] : withLetter(wordNames[word], letter);
            }
        }

        int length() {
            return length;
        }

        int kind() {
            return kind;
        }

        int number() {
            return number;
        }

        long name() {
            return name;
        }

        int faultKind() {
            return faultKind;
        }

        int faultPlace() {
            return faultPlace;
        }

        void addNumber(int four) {
            for (int shift = 24; shift >= 0; shift -= 8) {
                if (length < MOST_BYTES) {
                    bytes[length] = (byte) (four >> shift);
                    length++;
                }
            }
        }

        void cutTo(int n) {
            if (n >= 0 && n <= length) {
                length = n;
            }
        }

        void rewind() {
            faultKind = 0;
            faultPlace = NONE;
            next = 0;
            advance();
        }

        /** The text is read from its start to its end, so the first fault that is met is the first by its place. */
        void fail(int fault) {
            if (faultKind == 0) {
                faultKind = fault;
                faultPlace = place;
                kind = STOP;
            }
        }

        void advance() {
            if (faultKind != 0) {
                return;
            }
            int start = next;
            while (start < length && isBlank(bytes[start])) {
                start++;
            }
            place = start;
            next = start;
            if (start >= length) {
                kind = END;
            } else if (isLetter(bytes[start])) {
                scanWord(start);
            } else if (isDigit(bytes[start])) {
                scanNumber(start);
            } else {
                scanSign(bytes[start] & 255);
            }
        }

        void expect(int due) {
            if (kind != due) {
                fail(MISPLACED);
            }
            advance();
        }

        private void scanWord(int start) {
            int letters = 0;
            name = 0;
            for (int i = start; i < length && isLetter(bytes[i]); i++) {
                name = withLetter(name, bytes[i]);
                letters++;
            }
            if (letters > WORD_WIDTH) {
                fail(NO_TOKEN);
                return;
            }
            next = start + letters;
            kind = NAME;
            for (int word = 0; word < WORD_COUNT; word++) {
                kind = wordNames[word] == name ? WORD + word : kind;
            }
        }

        /** A word as one number, five bits a letter: unlike for unlike words of up to eight letters, and longer ones are no tokens. */
        private static long withLetter(long word, int letter) {
            return word * 32 + (letter - 'a' + 1);
        }

        private void scanNumber(int start) {
            int digits = 0;
            number = 0;
            for (int i = start; i < length && isDigit(bytes[i]); i++) {
                number = number * 10 + (bytes[i] - '0');
                digits++;
            }
            int behind = start + digits;
            if (digits > MOST_DIGITS || (behind < length && isLetter(bytes[behind]))) {
                fail(NO_TOKEN);
                return;
            }
            next = behind;
            kind = NUMBER;
        }

        private void scanSign(int sign) {
            if (SIGNS.indexOf((char) sign) < 0) {
                fail(NO_TOKEN);
                return;
            }
            next++;
            kind = sign;
        }

        private static boolean isBlank(int b) {
            return b == 32 || b == 10;
        }

        private static boolean isLetter(int b) {
            return b >= 'a' && b <= 'z';
        }

        private static boolean isDigit(int b) {
            return b >= '0' && b <= '9';
        }
    }

    /** Reads the tape's lines into a draft, which counts only if there is no fault. */
    private static final class TextReader {
        private static final int MOST_WITHIN = 6;

        private final Tape tape;
        private final Valley draft;

        TextReader(Tape tape, Valley draft) {
            this.tape = tape;
            this.draft = draft;
        }

        boolean readAll() {
            draft.empty();
            tape.rewind();
            // Each line takes a byte at least, or is a fault.
            for (int i = 0; i <= MOST_BYTES && tape.kind() != Tape.END && tape.kind() != Tape.STOP; i++) {
                switch (tape.kind()) {
                    case Tape.TURNS: readTurns(); break;
                    case Tape.MIRROR: startOnce(); draft.mirror = true; break;
                    case Tape.HERD: readHerd(); break;
                    case Tape.IRON: readIron(); break;
                    case Tape.BEAST: readBeast(); break;
                    case Tape.SHOWS: startOnce(); readEither(0); break;
                    case Tape.NIGHT: startOnce(); draft.night = takeNumber(100); break;
                    case Tape.DRAW: startOnce(); draft.draw = takeNumber(999); break;
                    default: tape.fail(Tape.MISPLACED);
                }
                tape.expect(';');
            }
            return tape.faultKind() == 0;
        }

        private void startOnce() {
            int bit = 1 << (tape.kind() - Tape.WORD);
            start((draft.linesTold & bit) == 0);
            draft.linesTold |= bit;
        }

        private void start(boolean room) {
            if (!room) {
                tape.fail(Tape.MISPLACED);
            }
            tape.advance();
        }

        private void readTurns() {
            startOnce();
            boolean isNumber = tape.kind() == Tape.NUMBER;
            int turns = tape.number();
            if (isNumber && turns != 1 && turns != 2 && turns != 4) {
                tape.fail(Tape.BAD_NUMBER);
            }
            takeNumber(4);
            draft.turns = turns;
        }

        private void readHerd() {
            start(draft.herds < MOST_HERDS);
            takeNewName(draft.herdNames, draft.herds);
            int mark = takeStrokes();
            if (draft.herds < MOST_HERDS) {
                draft.brands[draft.herds] = mark;
                draft.herds++;
            }
        }

        private void readIron() {
            start(draft.irons < MOST_IRONS);
            takeNewName(draft.ironNames, draft.irons);
            int mark = takeStrokes();
            if (draft.irons < MOST_IRONS) {
                draft.ironMarks[draft.irons] = mark;
                draft.irons++;
            }
        }

        private void readBeast() {
            start(draft.beasts < MOST_BEASTS);
            takeNewName(draft.beastNames, draft.beasts);
            tape.expect(Tape.OF);
            int home = takeHerd();
            int born = 0;
            if (tape.kind() == Tape.BORN) {
                tape.advance();
                born = takeNumber(99);
            }
            if (draft.beasts < MOST_BEASTS) {
                draft.homes[draft.beasts] = home;
                draft.births[draft.beasts] = born;
                draft.beasts++;
            }
        }

        private void takeNewName(long[] names, int count) {
            if (tape.kind() != Tape.NAME) {
                tape.fail(Tape.MISPLACED);
                return;
            }
            if (indexOfName(names, count) != NONE) {
                tape.fail(Tape.TOLD_ALREADY);
            }
            if (count < names.length) {
                names[count] = tape.name();
            }
            tape.advance();
        }

        private int takeHerd() {
            if (tape.kind() != Tape.NAME) {
                tape.fail(Tape.MISPLACED);
                return 0;
            }
            int herd = indexOfName(draft.herdNames, draft.herds);
            if (herd == NONE) {
                tape.fail(Tape.NO_SUCH_HERD);
                return 0;
            }
            tape.advance();
            return herd;
        }

        private int indexOfName(long[] names, int count) {
            for (int i = 0; i < count && i < names.length; i++) {
                if (names[i] == tape.name()) {
                    return i;
                }
            }
            return NONE;
        }

        private int takeNumber(int most) {
            if (tape.kind() != Tape.NUMBER) {
                tape.fail(Tape.MISPLACED);
                return 0;
            }
            int number = tape.number();
            if (number > most) {
                tape.fail(Tape.BAD_NUMBER);
            }
            tape.advance();
            return number;
        }

        private int takeStrokes() {
            tape.expect(Tape.STROKES_WORD);
            int mark = 0;
            // One stroke at least; what comes behind the twelfth is told already, or no stroke.
            for (int i = 0; i <= STROKES && (i == 0 || tape.kind() == Tape.NUMBER); i++) {
                int bit = tape.number() < STROKES ? 1 << tape.number() : 0;
                if (tape.kind() == Tape.NUMBER && (mark & bit) != 0) {
                    tape.fail(Tape.TOLD_ALREADY);
                }
                takeNumber(STROKES - 1);
                mark |= bit;
            }
            return mark;
        }

        private void readEither(int within) {
            readBoth(within);
            for (int i = 0; i < Formula.MOST_UNITS && tape.kind() == Tape.OR; i++) {
                tape.advance();
                readBoth(within);
                draft.shows.add(Tape.OR, 0);
            }
        }

        private void readBoth(int within) {
            readOne(within);
            for (int i = 0; i < Formula.MOST_UNITS && tape.kind() == Tape.AND; i++) {
                tape.advance();
                readOne(within);
                draft.shows.add(Tape.AND, 0);
            }
        }

        private void readOne(int within) {
            if (tape.kind() == Tape.NOT) {
                if (goesDeeper(within)) {
                    readOne(within + 1);
                    draft.shows.add(Tape.NOT, 0);
                }
                return;
            }
            readSum(within);
            int relation = tape.kind();
            if (relation == '<' || relation == '>' || relation == '=') {
                tape.advance();
                readSum(within);
                draft.shows.add(relation, 0);
            }
        }

        private void readSum(int within) {
            readTerm(within);
            for (int i = 0; i < Formula.MOST_UNITS && (tape.kind() == '+' || tape.kind() == '-'); i++) {
                int sign = tape.kind();
                tape.advance();
                readTerm(within);
                draft.shows.add(sign, 0);
            }
        }

        private void readTerm(int within) {
            readUnit(within);
            for (int i = 0; i < Formula.MOST_UNITS && isTermSign(tape.kind()); i++) {
                int sign = tape.kind();
                tape.advance();
                readUnit(within);
                draft.shows.add(sign, 0);
            }
        }

        private static boolean isTermSign(int kind) {
            return kind == '*' || kind == '/' || kind == '%';
        }

        private void readUnit(int within) {
            if (!draft.shows.countUnit()) {
                tape.fail(Tape.MISPLACED);
            }
            int kind = tape.kind();
            if (kind == Tape.NUMBER) {
                draft.shows.add(kind, tape.number());
                tape.advance();
            } else if (kind >= Tape.AGE && kind <= Tape.SEASON) {
                draft.shows.add(kind, 0);
                tape.advance();
            } else if (kind == '(') {
                if (goesDeeper(within)) {
                    readEither(within + 1);
                    tape.expect(')');
                }
            } else {
                tape.fail(Tape.MISPLACED);
            }
        }

        /** Passes the bracket or the not at hand, unless what it opens would lie too deep. */
        private boolean goesDeeper(int within) {
            if (within > MOST_WITHIN) {
                tape.fail(Tape.MISPLACED);
                return false;
            }
            tape.advance();
            return true;
        }
    }

    /** When a stroke shows: steps in the order in which a stack works them off. */
    private static final class Formula {
        static final int MOST_UNITS = 30;
        // Each unit, a sign for each, and not more than seven nots over each.
        private static final int MOST_STEPS = 9 * MOST_UNITS;

        private final int[] kinds = new int[MOST_STEPS];
        private final int[] numbers = new int[MOST_STEPS];
        private final int[] stack = new int[MOST_UNITS];
        private final int[] facts = new int[5];
        private int steps = 0;
        private int units = 0;

        void empty() {
            steps = 0;
            units = 0;
        }

        int units() {
            return units;
        }

        boolean countUnit() {
            if (units >= MOST_UNITS) {
                return false;
            }
            units++;
            return true;
        }

        void add(int kind, int number) {
            if (steps < MOST_STEPS) {
                kinds[steps] = kind;
                numbers[steps] = number;
                steps++;
            }
        }

        void copyFrom(Formula other) {
            System.arraycopy(other.kinds, 0, kinds, 0, MOST_STEPS);
            System.arraycopy(other.numbers, 0, numbers, 0, MOST_STEPS);
            steps = other.steps;
            units = other.units;
        }

        boolean holds(int age, int scars, int stroke, int born, int season) {
            if (steps == 0) {
                return true;
            }
            facts[0] = age;
            facts[1] = scars;
            facts[2] = stroke;
            facts[3] = born;
            facts[4] = season;
            int top = 0;
            for (int i = 0; i < steps; i++) {
                top = work(kinds[i], numbers[i], top);
            }
            return stack[0] != 0;
        }

        /** One step on a stack of so many numbers; how many there are behind it. */
        private int work(int kind, int number, int top) {
            boolean isFact = kind >= Tape.AGE && kind <= Tape.SEASON;
            if (isFact || kind == Tape.NUMBER) {
                if (top < MOST_UNITS) {
                    stack[top] = isFact ? facts[kind - Tape.AGE] : number;
                }
                return Math.min(top + 1, MOST_UNITS);
            }
            if (kind == Tape.NOT) {
                if (top > 0) {
                    stack[top - 1] = stack[top - 1] == 0 ? 1 : 0;
                }
                return top;
            }
            if (top < 2) {
                return top;
            }
            stack[top - 2] = joined(kind, stack[top - 2], stack[top - 1]);
            return top - 1;
        }

        private static int joined(int kind, int a, int b) {
            switch (kind) {
                case '+': return a + b;
                case '-': return a - b;
                case '*': return a * b;
                case '/': return b == 0 ? 0 : a / b;
                case '%': return b == 0 ? 0 : a % b;
                case '<': return a < b ? 1 : 0;
                case '>': return a > b ? 1 : 0;
                case '=': return a == b ? 1 : 0;
                case Tape.AND: return a != 0 && b != 0 ? 1 : 0;
                case Tape.OR: return a != 0 || b != 0 ? 1 : 0;
                default: return 0;
            }
        }
    }

    /** What a text tells. */
    private static final class Valley {
        int turns = 1;
        boolean mirror = false;
        int night = 0;
        int draw = 0;
        int herds = 0;
        int irons = 0;
        int beasts = 0;
        // A bit for each sort of line that may stand but once.
        int linesTold = 0;
        final long[] herdNames = new long[MOST_HERDS];
        final long[] ironNames = new long[MOST_IRONS];
        final long[] beastNames = new long[MOST_BEASTS];
        final int[] brands = new int[MOST_HERDS];
        final int[] ironMarks = new int[MOST_IRONS];
        final int[] homes = new int[MOST_BEASTS];
        final int[] births = new int[MOST_BEASTS];
        final Formula shows = new Formula();

        void empty() {
            turns = 1;
            mirror = false;
            night = 0;
            draw = 0;
            herds = 0;
            irons = 0;
            beasts = 0;
            linesTold = 0;
            shows.empty();
        }

        /** Names and told lines matter only while a text is read, so they stay behind. */
        void copyFrom(Valley other) {
            turns = other.turns;
            mirror = other.mirror;
            night = other.night;
            draw = other.draw;
            herds = other.herds;
            irons = other.irons;
            beasts = other.beasts;
            System.arraycopy(other.brands, 0, brands, 0, MOST_HERDS);
            System.arraycopy(other.ironMarks, 0, ironMarks, 0, MOST_IRONS);
            System.arraycopy(other.homes, 0, homes, 0, MOST_BEASTS);
            System.arraycopy(other.births, 0, births, 0, MOST_BEASTS);
            shows.copyFrom(other.shows);
        }
    }

    /** Marks and their placements: turned, and mirrored first and then turned. */
    private static final class Lattice {
        private static final int HALF_STROKES = 6;
        private static final int HALF_MARKS = 1 << HALF_STROKES;

        // A moved mark is put together from its two halves, so that small tables do for all marks.
        private final int[] lowHalves = new int[MOST_WAYS * HALF_MARKS];
        private final int[] highHalves = new int[MOST_WAYS * HALF_MARKS];
        private final int[] ways = new int[MOST_WAYS];
        private int placements = 1;

        Lattice() {
            for (int way = 0; way < MOST_WAYS; way++) {
                for (int stroke = 0; stroke < HALF_STROKES; stroke++) {
                    enter(lowHalves, way, stroke, movedStroke(stroke, way));
                    enter(highHalves, way, stroke, movedStroke(stroke + HALF_STROKES, way));
                }
            }
        }

        /** Enters the halves whose highest stroke is this one, each by the lesser half that is left without it. */
        private static void enter(int[] halves, int way, int stroke, int moved) {
            int row = way * HALF_MARKS;
            for (int half = 0; half < 1 << stroke; half++) {
                halves[row + (1 << stroke) + half] = halves[row + half] | 1 << moved;
            }
        }

        /** A stroke is known by its middle, told in half steps (0 to 4): across where y is even, down where it is odd. */
        private static int movedStroke(int stroke, int way) {
            int down = stroke - HALF_STROKES;
            int x = down < 0 ? 2 * (stroke % 2) + 1 : 2 * (down % 3);
            int y = down < 0 ? 2 * (stroke / 2) : 2 * (down / 3) + 1;
            if (way >= 4) {
                x = 4 - x;
            }
            for (int turn = 0; turn < way % 4; turn++) {
                int before = x;
                x = 4 - y;
                y = before;
            }
            return y % 2 == 0 ? y + x / 2 : HALF_STROKES + 3 * (y / 2) + x / 2;
        }

        void choose(int turns, boolean mirror) {
            int quarters = turns == 4 ? 1 : turns == 2 ? 2 : 4;
            placements = 0;
            for (int way = 0; way < (mirror ? MOST_WAYS : 4); way += quarters) {
                ways[placements] = way;
                placements++;
            }
        }

        int placements() {
            return placements;
        }

        int moved(int mark, int placement) {
            int row = ways[placement] * HALF_MARKS;
            return lowHalves[row + (mark & HALF_MARKS - 1)] | highHalves[row + (mark >> HALF_STROKES & HALF_MARKS - 1)];
        }

        int least(int mark) {
            int least = mark;
            for (int p = 1; p < placements; p++) {
                least = Math.min(least, moved(mark, p));
            }
            return least;
        }

        boolean isOne(int mark, int other) {
            for (int p = 0; p < placements; p++) {
                if (moved(mark, p) == other) {
                    return true;
                }
            }
            return false;
        }

        boolean fits(int mark, int other) {
            for (int p = 0; p < placements; p++) {
                if ((moved(mark, p) & ~other) == 0) {
                    return true;
                }
            }
            return false;
        }

        int unlikePlacements(int mark) {
            int unlike = 0;
            for (int p = 0; p < placements; p++) {
                int moved = moved(mark, p);
                boolean isNew = true;
                for (int q = 0; q < p; q++) {
                    isNew = isNew && moved(mark, q) != moved;
                }
                unlike += isNew ? 1 : 0;
            }
            return unlike;
        }

        int mostCommon(int mark, int other) {
            int most = 0;
            for (int p = 0; p < placements; p++) {
                most = Math.max(most, Integer.bitCount(moved(mark, p) & other));
            }
            return most;
        }

        int leastDifference(int mark, int other) {
            int least = STROKES;
            for (int p = 0; p < placements; p++) {
                least = Math.min(least, Integer.bitCount(moved(mark, p) ^ other));
            }
            return least;
        }
    }

    /** Irons in their placements, and by how few of them a mark is made into another one. */
    private static final class Smith {
        // More burnings than any mark needs, whose strokes are only twelve.
        private static final int TOO_MANY = 100;

        private final Lattice lattice;
        private final int[] placedIrons = new int[MOST_IRONS * MOST_WAYS];
        private final int[] within = new int[MOST_IRONS * MOST_WAYS];
        private final byte[] costs = new byte[MARKS];
        private int irons = 0;
        private int aim = NONE;

        Smith(Lattice lattice) {
            this.lattice = lattice;
        }

        void layOut(Valley told) {
            irons = told.irons;
            aim = NONE;
            for (int iron = 0; iron < irons; iron++) {
                for (int p = 0; p < lattice.placements(); p++) {
                    placedIrons[iron * MOST_WAYS + p] = lattice.moved(told.ironMarks[iron], p);
                }
            }
        }

        int irons() {
            return irons;
        }

        int placements() {
            return lattice.placements();
        }

        int placedIron(int iron, int placement) {
            return placedIrons[iron * MOST_WAYS + placement];
        }

        /** By how few burnings, 4 at most, a mark is made into the other one; NONE if it can't be. */
        int fewest(int mark, int other) {
            int fewest = TOO_MANY;
            // To turn the mark is as good as to turn the aim: placements form a group, and irons go along with it.
            for (int p = 0; p < lattice.placements(); p++) {
                int moved = lattice.moved(mark, p);
                if ((moved & ~other) == 0) {
                    aimAt(other);
                    fewest = Math.min(fewest, costs[other & ~moved]);
                }
            }
            return fewest <= MOST_BURNINGS ? fewest : NONE;
        }

        /** How few irons that lie within the aim cover each part of it: found for all parts at once, the lesser first. */
        private void aimAt(int mark) {
            if (aim == mark) {
                return;
            }
            aim = mark;
            int usable = gatherWithin(mark);
            int parts = 1 << Integer.bitCount(mark);
            int part = 0;
            costs[0] = 0;
            for (int i = 1; i < parts; i++) {
                part = part - mark & mark;
                int lowest = part & -part;
                int cost = TOO_MANY;
                for (int u = 0; u < usable; u++) {
                    if ((within[u] & lowest) != 0) {
                        cost = Math.min(cost, costs[part & ~within[u]] + 1);
                    }
                }
                costs[part] = (byte) cost;
            }
        }

        private int gatherWithin(int mark) {
            int usable = 0;
            for (int iron = 0; iron < irons; iron++) {
                for (int p = 0; p < lattice.placements(); p++) {
                    int placedIron = placedIrons[iron * MOST_WAYS + p];
                    if ((placedIron & ~mark) == 0) {
                        within[usable] = placedIron;
                        usable++;
                    }
                }
            }
            return usable;
        }

        /** Writes iron and placement of each of the fewest burnings, the first such row; how many numbers that are. */
        int firstRow(int mark, int other, int burnings, int[] row) {
            int now = mark;
            int written = 0;
            for (int left = burnings - 1; left >= 0 && written + 1 < row.length; left--) {
                int step = firstStep(now, other, left);
                if (step == NONE) {
                    return 0;
                }
                row[written] = step / MOST_WAYS;
                row[written + 1] = step % MOST_WAYS;
                written += 2;
                now |= placedIrons[step];
            }
            return written;
        }

        private int firstStep(int mark, int other, int left) {
            for (int iron = 0; iron < irons; iron++) {
                for (int p = 0; p < lattice.placements(); p++) {
                    if (fewest(mark | placedIron(iron, p), other) == left) {
                        return iron * MOST_WAYS + p;
                    }
                }
            }
            return NONE;
        }
    }

    /** Hides, ages, owners, the season and the seed at one moment. */
    private static final class Pasture {
        final int[] hides = new int[MOST_BEASTS];
        final int[] owners = new int[MOST_BEASTS];
        private final int[] ages = new int[MOST_BEASTS * STROKES];
        int seasons = 0;
        int seed = 0;

        void copyFrom(Pasture other) {
            System.arraycopy(other.hides, 0, hides, 0, MOST_BEASTS);
            System.arraycopy(other.owners, 0, owners, 0, MOST_BEASTS);
            System.arraycopy(other.ages, 0, ages, 0, MOST_BEASTS * STROKES);
            seasons = other.seasons;
            seed = other.seed;
        }

        void startAs(Valley told) {
            seasons = 0;
            seed = told.draw;
            for (int beast = 0; beast < told.beasts; beast++) {
                int home = told.homes[beast];
                owners[beast] = home;
                rebrand(beast, told.brands[home], told.births[beast]);
            }
        }

        void rebrand(int beast, int brand, int age) {
            hides[beast] = brand;
            for (int stroke = 0; stroke < STROKES; stroke++) {
                ages[beast * STROKES + stroke] = age;
            }
        }

        int ageOf(int beast, int stroke) {
            return (hides[beast] & 1 << stroke) != 0 ? ages[beast * STROKES + stroke] : NONE;
        }

        int oldestAge(int beast) {
            int most = NONE;
            for (int stroke = 0; stroke < STROKES; stroke++) {
                most = Math.max(most, ageOf(beast, stroke));
            }
            return most;
        }

        /** How many strokes came. */
        int addStrokes(int beast, int mark) {
            int came = mark & ~hides[beast];
            for (int stroke = 0; stroke < STROKES; stroke++) {
                if ((came & 1 << stroke) != 0) {
                    ages[beast * STROKES + stroke] = 0;
                }
            }
            hides[beast] |= came;
            return Integer.bitCount(came);
        }

        void growOld() {
            seasons++;
            for (int i = 0; i < ages.length; i++) {
                ages[i] = Math.min(ages[i] + 1, MOST_AGE);
            }
        }

        /** Who was burned, as bits. */
        int passNights(Valley told) {
            int burned = 0;
            for (int beast = 0; beast < told.beasts; beast++) {
                seed = (137 * seed + 71) % 1000;
                if (seed % 100 < told.night) {
                    burned |= 1 << beast;
                    addStrokes(beast, 1 << seed % STROKES);
                }
            }
            return burned;
        }
    }

    /** The pasture as it is now, as it was before the latest acts and behind those taken back, and what boxes keep. */
    private static final class History {
        // The pasture of now stands among those kept, in a ring.
        private static final int RING = MOST_ACTS + 1;

        private final Pasture[] ring = new Pasture[RING];
        private final Pasture[] boxes = new Pasture[BOXES];
        private final boolean[] isKept = new boolean[BOXES];
        private int here = 0;
        private int undoable = 0;
        private int redoable = 0;

        History() {
            for (int i = 0; i < RING; i++) {
                ring[i] = new Pasture();
            }
            for (int i = 0; i < BOXES; i++) {
                boxes[i] = new Pasture();
            }
        }

        Pasture now() {
            return ring[here];
        }

        int undoable() {
            return undoable;
        }

        int redoable() {
            return redoable;
        }

        void restart(Valley told) {
            forgetActs();
            for (int i = 0; i < BOXES; i++) {
                isKept[i] = false;
            }
            now().startAs(told);
        }

        private void forgetActs() {
            undoable = 0;
            redoable = 0;
        }

        /** The pasture on which an act is to be done; that before it is kept. */
        Pasture beginAct() {
            Pasture before = now();
            here = (here + 1) % RING;
            now().copyFrom(before);
            undoable = Math.min(undoable + 1, MOST_ACTS);
            redoable = 0;
            return now();
        }

        boolean stepBack() {
            if (undoable == 0) {
                return false;
            }
            undoable--;
            redoable++;
            here = (here + RING - 1) % RING;
            return true;
        }

        boolean stepOn() {
            if (redoable == 0) {
                return false;
            }
            redoable--;
            undoable++;
            here = (here + 1) % RING;
            return true;
        }

        int keep(int box) {
            boxes[box].copyFrom(now());
            isKept[box] = true;
            return now().seasons;
        }

        int bringBack(int box) {
            if (!isKept[box]) {
                return NONE;
            }
            forgetActs();
            now().copyFrom(boxes[box]);
            return now().seasons;
        }
    }

    /** What is asked of the herds' brands alone. */
    private static final class Book {
        private final Valley told;
        private final Lattice lattice;
        private final Smith smith;
        private final int[] norms = new int[MOST_HERDS];
        // For each herd the herds, not ONE with it, under whose brands its own is, as bits.
        private final int[] above = new int[MOST_HERDS];
        private final int[] heights = new int[MOST_HERDS];
        private final int[] placedBrands = new int[MOST_HERDS * MOST_WAYS];
        private int placedCount = 0;

        Book(Valley told, Lattice lattice, Smith smith) {
            this.told = told;
            this.lattice = lattice;
            this.smith = smith;
        }

        void compareBrands() {
            placedCount = 0;
            for (int herd = 0; herd < told.herds; herd++) {
                norms[herd] = lattice.least(told.brands[herd]);
                for (int p = 0; p < lattice.placements(); p++) {
                    placedBrands[placedCount] = lattice.moved(told.brands[herd], p);
                    placedCount++;
                }
            }
            for (int herd = 0; herd < told.herds; herd++) {
                above[herd] = herdsAbove(herd);
            }
        }

        private int herdsAbove(int herd) {
            int bits = 0;
            for (int other = 0; other < told.herds; other++) {
                if (norms[other] != norms[herd] && lattice.fits(told.brands[herd], told.brands[other])) {
                    bits |= 1 << other;
                }
            }
            return bits;
        }

        private int allHerds() {
            return (1 << told.herds) - 1;
        }

        int bottomHerds() {
            int bits = allHerds();
            for (int herd = 0; herd < told.herds; herd++) {
                bits &= ~above[herd];
            }
            return bits;
        }

        int topHerds() {
            int bits = 0;
            for (int herd = 0; herd < told.herds; herd++) {
                bits |= above[herd] == 0 ? 1 << herd : 0;
            }
            return bits;
        }

        int twinCount() {
            int count = 0;
            for (int herd = 0; herd < told.herds; herd++) {
                for (int other = herd + 1; other < told.herds; other++) {
                    count += norms[herd] == norms[other] ? 1 : 0;
                }
            }
            return count;
        }

        boolean isClosed() {
            return topHerds() == allHerds() && twinCount() == 0;
        }

        /** Writes the first of the longest chains, from its lowest herd on; how many herds it has. */
        int longestChain(int[] row) {
            int length = measureHeights();
            int candidates = allHerds();
            for (int i = 0; i < length && i < row.length; i++) {
                int herd = firstOfHeight(length - i, candidates);
                if (herd == NONE) {
                    return i;
                }
                row[i] = herd;
                candidates = above[herd];
            }
            return length;
        }

        /** Of each herd, how many herds the longest chain from it upward has; the most of these. */
        private int measureHeights() {
            int most = 0;
            Arrays.fill(heights, 0);
            // No chain is longer than there are herds, so by then all heights are right.
            for (int round = 0; round < told.herds; round++) {
                for (int herd = 0; herd < told.herds; herd++) {
                    heights[herd] = 1 + highestOf(above[herd]);
                    most = Math.max(most, heights[herd]);
                }
            }
            return most;
        }

        private int highestOf(int herds) {
            int most = 0;
            for (int herd = 0; herd < told.herds; herd++) {
                if ((herds & 1 << herd) != 0) {
                    most = Math.max(most, heights[herd]);
                }
            }
            return most;
        }

        private int firstOfHeight(int height, int candidates) {
            for (int herd = 0; herd < told.herds; herd++) {
                if ((candidates & 1 << herd) != 0 && heights[herd] == height) {
                    return herd;
                }
            }
            return NONE;
        }

        int freshMark() {
            int best = NONE;
            int fewest = STROKES + 1;
            for (int mark = 1; mark < MARKS; mark++) {
                int count = Integer.bitCount(mark);
                if (count < fewest && isFresh(mark)) {
                    best = mark;
                    fewest = count;
                }
            }
            return best;
        }

        private boolean isFresh(int mark) {
            for (int i = 0; i < placedCount; i++) {
                int common = mark & placedBrands[i];
                if (common == mark || common == placedBrands[i]) {
                    return false;
                }
            }
            return true;
        }

        int safeHerds() {
            int bits = allHerds();
            // The aim in the outer loop, so that the smith looks at each only once.
            for (int aim = 0; aim < told.herds; aim++) {
                for (int herd = 0; herd < told.herds; herd++) {
                    if (norms[herd] != norms[aim] && canBeMade(herd, aim)) {
                        bits &= ~(1 << herd);
                    }
                }
            }
            return bits;
        }

        private boolean canBeMade(int herd, int aim) {
            return smith.fewest(told.brands[herd], told.brands[aim]) != NONE;
        }

        int kingHerd() {
            int best = NONE;
            int most = NONE;
            for (int herd = 0; herd < told.herds; herd++) {
                int makers = makersOf(herd);
                if (makers > most) {
                    best = herd;
                    most = makers;
                }
            }
            return best;
        }

        /** How many other herds' brands can be made into this one's. */
        int makersOf(int aim) {
            int count = 0;
            for (int herd = 0; herd < told.herds; herd++) {
                count += herd != aim && canBeMade(herd, aim) ? 1 : 0;
            }
            return count;
        }

        int usefulIrons() {
            int bits = 0;
            for (int iron = 0; iron < told.irons; iron++) {
                for (int herd = 0; herd < told.herds; herd++) {
                    if (makesAnother(iron, herd)) {
                        bits |= 1 << iron;
                    }
                }
            }
            return bits;
        }

        private boolean makesAnother(int iron, int herd) {
            for (int p = 0; p < lattice.placements(); p++) {
                int norm = lattice.least(told.brands[herd] | smith.placedIron(iron, p));
                for (int other = 0; other < told.herds; other++) {
                    if (norms[other] == norm && norm != norms[herd]) {
                        return true;
                    }
                }
            }
            return false;
        }

        int nearestHerd(int mark) {
            int best = NONE;
            int least = STROKES + 1;
            for (int herd = 0; herd < told.herds; herd++) {
                int apart = lattice.leastDifference(told.brands[herd], mark);
                if (apart < least) {
                    best = herd;
                    least = apart;
                }
            }
            return best;
        }
    }

    /** What is asked of the beasts of a pasture. */
    private static final class Beasts {
        private final Valley told;
        private final Lattice lattice;
        private final Smith smith;
        private final int[] firstGains = new int[MOST_BEASTS];
        private final int[] otherGains = new int[MOST_BEASTS];

        Beasts(Valley told, Lattice lattice, Smith smith) {
            this.told = told;
            this.lattice = lattice;
            this.smith = smith;
        }

        /** The strokes that show behind so many seasons without nights. */
        int showing(Pasture now, int beast, int ahead) {
            int mark = 0;
            for (int stroke = 0; stroke < STROKES; stroke++) {
                int age = now.ageOf(beast, stroke);
                if (age != NONE && shows(now, beast, stroke, Math.min(age + ahead, MOST_AGE), ahead)) {
                    mark |= 1 << stroke;
                }
            }
            return mark;
        }

        private boolean shows(Pasture now, int beast, int stroke, int age, int ahead) {
            int scars = Integer.bitCount(now.hides[beast]);
            return told.shows.holds(age, scars, stroke, told.births[beast], now.seasons + ahead);
        }

        int showingBehind(Pasture now, int ahead) {
            int count = 0;
            for (int beast = 0; beast < told.beasts; beast++) {
                count += Integer.bitCount(showing(now, beast, ahead));
            }
            return count;
        }

        int showingAtAge(Pasture now, int age) {
            int count = 0;
            for (int beast = 0; beast < told.beasts; beast++) {
                for (int stroke = 0; stroke < STROKES; stroke++) {
                    boolean isOn = (now.hides[beast] & 1 << stroke) != 0;
                    count += isOn && shows(now, beast, stroke, age, 0) ? 1 : 0;
                }
            }
            return count;
        }

        int fadesBehind(Pasture now, int beast) {
            for (int ahead = 0; ahead <= MOST_AHEAD; ahead++) {
                if (showing(now, beast, ahead) == 0) {
                    return ahead;
                }
            }
            return NONE;
        }

        int originHerds(Pasture now, int beast) {
            int bits = 0;
            for (int herd = 0; herd < told.herds; herd++) {
                if (smith.fewest(told.brands[herd], now.hides[beast]) != NONE) {
                    bits |= 1 << herd;
                }
            }
            return bits;
        }

        int readHerds(Pasture now, int beast) {
            int shown = showing(now, beast, 0);
            int bits = 0;
            for (int herd = 0; herd < told.herds; herd++) {
                if (lattice.isOne(shown, told.brands[herd])) {
                    bits |= 1 << herd;
                }
            }
            return bits;
        }

        int claimedBy(Pasture now, int herd) {
            int bits = 0;
            for (int beast = 0; beast < told.beasts; beast++) {
                if (now.owners[beast] != herd && smith.fewest(now.hides[beast], told.brands[herd]) != NONE) {
                    bits |= 1 << beast;
                }
            }
            return bits;
        }

        int temptedHerd(Pasture now, int beast) {
            int best = NONE;
            int fewest = MOST_BURNINGS + 1;
            for (int herd = 0; herd < told.herds; herd++) {
                int count = smith.fewest(now.hides[beast], told.brands[herd]);
                if (herd != now.owners[beast] && count > 0 && count < fewest) {
                    best = herd;
                    fewest = count;
                }
            }
            return best;
        }

        int strayBeasts(Pasture now) {
            int bits = 0;
            for (int beast = 0; beast < told.beasts; beast++) {
                int owner = now.owners[beast];
                if (!lattice.isOne(now.hides[beast], told.brands[owner])) {
                    bits |= 1 << beast;
                }
            }
            return bits;
        }

        int untouchedStrokes(Pasture now) {
            int bits = FULL_MARK;
            for (int beast = 0; beast < told.beasts; beast++) {
                bits &= ~now.hides[beast];
            }
            return bits;
        }

        int tellingStroke(Pasture now) {
            int best = NONE;
            int least = told.beasts + 1;
            for (int stroke = 0; stroke < STROKES && told.beasts > 0; stroke++) {
                int have = 0;
                for (int beast = 0; beast < told.beasts; beast++) {
                    have += now.hides[beast] >> stroke & 1;
                }
                int apart = Math.abs(2 * have - told.beasts);
                if (apart < least) {
                    best = stroke;
                    least = apart;
                }
            }
            return best;
        }

        /** How many rests a raid has; the beasts of the first one are written in the row. */
        int countRests(Pasture now, int herd, int other, int[] row) {
            fillGains(now, herd, firstGains);
            fillGains(now, other, otherGains);
            int rests = 0;
            for (int a = 0; a < told.beasts; a++) {
                for (int b = 0; b < told.beasts; b++) {
                    if (staysAt(firstGains, a, b) && staysAt(otherGains, b, a)) {
                        if (rests == 0 && row.length >= 2) {
                            row[0] = a;
                            row[1] = b;
                        }
                        rests++;
                    }
                }
            }
            return rests;
        }

        private void fillGains(Pasture now, int herd, int[] gains) {
            for (int beast = 0; beast < told.beasts; beast++) {
                int count = smith.fewest(now.hides[beast], told.brands[herd]);
                gains[beast] = count == NONE ? 0 : 10 - count;
            }
        }

        private boolean staysAt(int[] gains, int chosen, int taken) {
            int gain = chosen == taken ? 0 : gains[chosen];
            for (int beast = 0; beast < told.beasts; beast++) {
                if (beast != taken && gains[beast] > gain) {
                    return false;
                }
            }
            return true;
        }
    }

    /** What was seen of the first beast's two burnings, and what follows from it as known at a time. */
    private static final class Witness {
        private static final int NOT_SURE = -2;

        private final Valley told;
        private final Smith smith;
        private final int[] burnings = new int[MOST_SEEN];
        private final int[] strokes = new int[MOST_SEEN];
        private final boolean[] wasOn = new boolean[MOST_SEEN];
        private final int[] toldAt = new int[MOST_SEEN];
        private final int[] untoldAt = new int[MOST_SEEN];
        private int count = 0;
        private int time = 0;
        // By burning less 1: the strokes that must be on the hide, and those that must not.
        private final int[] on = new int[2];
        private final int[] off = new int[2];
        // By iron, in how many rows it is the one of the burning.
        private final int[] firstCounts = new int[MOST_IRONS];
        private final int[] secondCounts = new int[MOST_IRONS];

        Witness(Valley told, Smith smith) {
            this.told = told;
            this.smith = smith;
        }

        int count() {
            return count;
        }

        int time() {
            return time;
        }

        void forget() {
            count = 0;
        }

        int tell(int burning, int stroke, boolean is) {
            if (count >= MOST_SEEN) {
                return NONE;
            }
            burnings[count] = burning;
            strokes[count] = stroke;
            wasOn[count] = is;
            toldAt[count] = time;
            untoldAt[count] = NONE;
            count++;
            return count - 1;
        }

        boolean takeBack(int seen) {
            if (seen < 0 || seen >= count || untoldAt[seen] != NONE) {
                return false;
            }
            untoldAt[seen] = time;
            return true;
        }

        int goOn(int by) {
            if (time + by > MOST_TIME) {
                return NONE;
            }
            time += by;
            return time;
        }

        /** Also leaves the counts by iron behind. */
        int countRows(int k) {
            gather(k);
            Arrays.fill(firstCounts, 0);
            Arrays.fill(secondCounts, 0);
            if (told.beasts == 0) {
                return 0;
            }
            int hide = told.brands[told.homes[0]];
            int rows = 0;
            for (int iron = 0; iron < smith.irons(); iron++) {
                for (int p = 0; p < smith.placements(); p++) {
                    int burned = hide | smith.placedIron(iron, p);
                    int found = agrees(burned, 0) ? countSecond(burned) : 0;
                    firstCounts[iron] += found;
                    rows += found;
                }
            }
            return rows;
        }

        private int countSecond(int hide) {
            int found = 0;
            for (int iron = 0; iron < smith.irons(); iron++) {
                for (int p = 0; p < smith.placements(); p++) {
                    if (agrees(hide | smith.placedIron(iron, p), 1)) {
                        secondCounts[iron]++;
                        found++;
                    }
                }
            }
            return found;
        }

        private boolean agrees(int hide, int burning) {
            return (on[burning] & ~hide) == 0 && (off[burning] & hide) == 0;
        }

        private void gather(int k) {
            Arrays.fill(on, 0);
            Arrays.fill(off, 0);
            for (int i = 0; i < count; i++) {
                boolean isUntold = untoldAt[i] != NONE && untoldAt[i] <= k;
                if (toldAt[i] <= k && !isUntold) {
                    int[] marks = wasOn[i] ? on : off;
                    marks[burnings[i] - 1] |= 1 << strokes[i];
                }
            }
        }

        int sureIron(int burning, int k) {
            int rows = countRows(k);
            int[] counts = burning == 1 ? firstCounts : secondCounts;
            if (rows == 0) {
                return NONE;
            }
            for (int iron = 0; iron < MOST_IRONS; iron++) {
                if (counts[iron] == rows) {
                    return iron;
                }
            }
            return NOT_SURE;
        }

        /** As counted last: how many rows are left at the most, if the burning's iron gets known. */
        int mostLeft(int burning) {
            int[] counts = burning == 1 ? firstCounts : secondCounts;
            int most = 0;
            for (int iron = 0; iron < MOST_IRONS; iron++) {
                most = Math.max(most, counts[iron]);
            }
            return most;
        }
    }
}
