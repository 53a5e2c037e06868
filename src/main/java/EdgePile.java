/** Books piled out over the edge of a table, told as texts; README.md says how to use it. */
public final class EdgePile {
    public static final int NONE = -1;

    private static final int MAX_TAPE = 2000;
    private static final int FEED_BYTES = 20;
    private static final int MAX_TOKENS = 400;
    private static final int MAX_LETTERS = 8;
    private static final int MAX_DIGITS = 4;
    private static final int MAX_BOOKS = 6;
    private static final int MAX_FLIES = 6;
    private static final int MAX_IFS = 4;
    private static final int MAX_NESTED = 6;
    private static final int MAX_PLACE = 999;
    private static final int MAX_TABLE = 999;
    private static final int MAX_LONG = 99;
    private static final int MAX_WEIGHT = 20;
    private static final int MAX_WEIGHS = 99;
    private static final int MAX_FLY = 99;
    private static final int MAX_FLY_MORE = 9999;
    private static final int MAX_SHIFT = 200;
    private static final int MAX_UNDO = 50;
    private static final int MAX_SEEN = 6;
    private static final int MAX_FIT = 6;
    private static final int MAX_SLOTS = 3;
    private static final int MAX_ALIKE = 40;
    private static final int USUAL_TABLE = 100;
    private static final int SUBSETS = 1 << MAX_BOOKS;

    private static final int NOT_SO = -2;
    private static final int NO_BOOK = -10000;
    private static final int NO_PLACE = -1000;
    private static final int NO_POINT = -1000000;
    private static final int NO_LEVEL_TO_SLIDE = -1000;
    private static final int FALLEN = -2000;

    private static final int SYNTAX = 1;
    private static final int ROOM = 2;
    private static final int TWICE = 3;
    private static final int NAME_UNKNOWN = 4;
    private static final int WRONG = 5;

    // A word's kind is its number in this row, a sign's kind is the sign itself.
    private static final String WORDS =
        "book heavy table pile fly at glued on if then else long told level place above ";
    private static final int WORD_COUNT = 16;
    private static final int BOOK = 0;
    private static final int HEAVY = 1;
    private static final int TABLE = 2;
    private static final int PILE = 3;
    private static final int FLY = 4;
    private static final int AT = 5;
    private static final int GLUED = 6;
    private static final int ON = 7;
    private static final int IF = 8;
    private static final int THEN = 9;
    private static final int ELSE = 10;
    private static final int LONG = 11;
    private static final int TOLD = 12;
    private static final int LEVEL = 13;
    private static final int PLACE = 14;
    private static final int ABOVE = 15;
    private static final int NAME = 16;
    private static final int INT = 17;
    private static final int END = 18;
    private static final int NO_TOKEN = 19;
    private static final String SIGNS = ";=+-*/<()";

    // What a law does beside its four signs of reckoning.
    private static final int PUSH = 1;
    private static final int PUSH_VAR = 2;
    private static final int UNLESS_LESS = 3;
    private static final int GIVE = 4;
    private static final int STACK = 40;

    private static final int LAID = 1;
    private static final int LIFTED = 2;
    private static final int MOVED = 3;

    private final char[] tape = new char[MAX_TAPE];
    private int tapeSize = 0;
    private final Tokens tokens = new Tokens();
    // Two texts take turns, so that one with a FAULT leaves the other as it was.
    private Told told = new Told();
    private Told draft = new Told();
    private final Parser parser = new Parser(tokens, draft);
    private final Pile pile = new Pile();
    private final Pile trial = new Pile();
    private final Balance balance = new Balance(told, pile);
    private final Past past = new Past();
    private final Slots slots = new Slots();
    private final Fitting fitting = new Fitting();
    private final Orders orders = new Orders();
    private final Ratio ratio = new Ratio();
    private final int[] ways = new int[SUBSETS];

    public EdgePile() {
    }

    public int feed(int a, int b, int c, int d, int e) {
        if (tapeSize + FEED_BYTES > MAX_TAPE) {
            return NONE;
        }
        putBytes(a);
        putBytes(b);
        putBytes(c);
        putBytes(d);
        putBytes(e);
        return tapeSize;
    }

    public int back(int n) {
        if (n < 0 || n > tapeSize) {
            return NONE;
        }
        tapeSize -= n;
        return tapeSize;
    }

    public int read() {
        tokens.scan(tape, tapeSize);
        tapeSize = 0;
        parser.parse(draft);
        if (parser.fault == 0) {
            Told ahead = told;
            told = draft;
            draft = ahead;
            pile.copyFrom(told.pile);
            past.size = 0;
            fitting.size = 0;
            slots.empty();
        }
        return parser.fault;
    }

    public int place() {
        return parser.faultPlace;
    }

    public int book(int book, int what) {
        if (!isBook(book)) {
            return NO_BOOK;
        }
        int level = pile.levelOf(book);
        boolean lies = level != NONE;
        switch (what) {
            case 0: return told.longs[book];
            case 1: return told.weights[book];
            case 2: return lies ? told.weighs(pile, level) : told.weights[book];
            case 3: return lies ? level : NOT_SO;
            case 4: return lies ? pile.places[level] : NO_PLACE;
            case 5: return lies && pile.glued[level] ? 1 : 0;
            default: return NO_BOOK;
        }
    }

    public int level(int level) {
        return isLevel(level) ? pile.books[level] : NONE;
    }

    public int load(int level) {
        if (!isLevel(level)) {
            return NONE;
        }
        balance.weigh(told, pile);
        return balance.loads[level];
    }

    public long point(int level, boolean below) {
        if (!isLevel(level)) {
            return NO_POINT;
        }
        balance.weigh(told, pile);
        ratio.become(balance.moments[level], 2L * balance.loads[level]);
        return ratio.part(below);
    }

    public boolean stands() {
        return balance.allStand(told, pile);
    }

    public int tips(int what) {
        if (what != 0 && what != 1) {
            return NONE;
        }
        balance.weigh(told, pile);
        int level = balance.lowestFalling();
        if (level == NONE) {
            return NOT_SO;
        }
        if (what == 0) {
            return level;
        }
        return balance.fallsRight(level) ? 1 : 0;
    }

    public int over() {
        return farthestOut(pile);
    }

    public int lay(int book, int place, boolean glued) {
        if (!isBook(book) || pile.levelOf(book) != NONE || !isPlace(place)) {
            return NONE;
        }
        pile.put(book, place, glued);
        past.note(LAID, book, place, glued);
        return pile.size - 1;
    }

    public int lift() {
        int top = pile.size - 1;
        if (!isLevel(top)) {
            return NONE;
        }
        int book = pile.books[top];
        past.note(LIFTED, book, pile.places[top], pile.glued[top]);
        pile.drop();
        return book;
    }

    public boolean move(int level, int by) {
        if (!isLevel(level)) {
            return false;
        }
        for (int i = level; i < pile.size; i++) {
            // As a long, for a by near the ends of int would wrap into the allowed PLACES.
            if (!isPlace((long) pile.places[i] + by)) {
                return false;
            }
        }
        pile.shift(level, by);
        past.note(MOVED, level, by, false);
        return true;
    }

    public boolean undo() {
        return past.takeBack(pile);
    }

    public int bears(int book, int at) {
        if (!canBear(book, at)) {
            return NONE;
        }
        return balance.bearing(pile.levelOf(book), at) ? balance.heaviest : NOT_SO;
    }

    public int holds(int book, int at) {
        if (!canBear(book, at)) {
            return NONE;
        }
        return balance.bearing(pile.levelOf(book), at) ? balance.lightest : NOT_SO;
    }

    public int pushed(int what) {
        if (what != 0 && what != 1) {
            return NONE;
        }
        trial.copyFrom(pile);
        for (int level = trial.size - 1; level >= 0; level--) {
            pushRight(level);
        }
        if (what == 0) {
            return farthestOut(trial);
        }
        return balance.allStand(told, trial) ? 1 : 0;
    }

    public int takings() {
        int all = (1 << pile.size) - 1;
        ways[0] = 1;
        for (int kept = 1; kept <= all && kept < SUBSETS; kept++) {
            trial.keepOf(pile, kept);
            ways[kept] = balance.allStand(told, trial) ? waysOn(kept) : 0;
        }
        return ways[all];
    }

    public int slides(int level, boolean most) {
        if (!isLevel(level)) {
            return NO_LEVEL_TO_SLIDE;
        }
        trial.copyFrom(pile);
        if (!balance.allStand(told, trial)) {
            return FALLEN;
        }
        int step = most ? 1 : -1;
        for (int n = 1; n <= MAX_SHIFT; n++) {
            trial.shift(level, step);
            if (!balance.allStand(told, trial)) {
                return step * (n - 1);
            }
        }
        return step * MAX_SHIFT;
    }

    public int out(int level) {
        if (!isLevel(level)) {
            return NONE;
        }
        int all = (1 << pile.size) - 1;
        trial.keepOf(pile, all & ~(1 << level));
        return balance.allStand(told, trial) ? 1 : 0;
    }

    public long reach(int order, boolean below) {
        return orders.measure(told, order, ratio) ? ratio.part(below) : NONE;
    }

    public int bestOrder(int set) {
        if (set <= 0 || set >= 1 << told.books) {
            return NONE;
        }
        return orders.findBest(told, set);
    }

    public long alike(int n, boolean below) {
        if (n < 1 || n > MAX_ALIKE) {
            return NONE;
        }
        ratio.become(0, 1);
        for (int i = 1; i <= n; i++) {
            ratio.add(1, 2L * i);
        }
        return ratio.part(below);
    }

    public int needed(int a, int b) {
        if (a < 0 || a > 99 || b < 1 || b > 99) {
            return NONE;
        }
        ratio.become(0, 1);
        for (int n = 1; n <= MAX_ALIKE; n++) {
            ratio.add(1, 2L * n);
            // ALIKE 40 has 17 digits on each side of the line: two more still fit a long.
            if (ratio.above * b >= a * ratio.below) {
                return n;
            }
        }
        return NOT_SO;
    }

    public int see(boolean stood) {
        return fitting.note(told, pile, stood);
    }

    public int forget() {
        int were = fitting.size;
        fitting.size = 0;
        return were;
    }

    public int fits(int most, int k) {
        if (!canFit(most, k)) {
            return NONE;
        }
        fitting.search(told.books, most, k);
        return fitting.rows;
    }

    public int span(int most, int k, int book) {
        if (!canFit(most, k) || !isBook(book)) {
            return NONE;
        }
        fitting.search(told.books, most, k);
        if (fitting.rows == 0) {
            return NOT_SO;
        }
        return 10 * fitting.least[book] + fitting.greatest[book];
    }

    public boolean hold(int slot) {
        return slots.keep(slot, pile);
    }

    public boolean restore(int slot) {
        if (!slots.giveBack(slot, pile)) {
            return false;
        }
        past.size = 0;
        return true;
    }

    public int count(int what) {
        switch (what) {
            case 0: return told.books;
            case 1: return pile.size;
            case 2: return told.table;
            case 3: return told.flies;
            case 4: return fliesInPile();
            case 5: return tapeSize;
            case 6: return past.size;
            case 7: return fitting.size;
            case 8: return slots.filled();
            default: return NONE;
        }
    }

    private void putBytes(int four) {
        for (int shift = 24; shift >= 0 && tapeSize < MAX_TAPE; shift -= 8) {
            tape[tapeSize] = (char) ((four >>> shift) & 255);
            tapeSize++;
        }
    }

    private boolean isBook(int book) {
        return book >= 0 && book < told.books;
    }

    private boolean isLevel(int level) {
        return level >= 0 && level < pile.size;
    }

    private static boolean isPlace(long place) {
        return place >= -MAX_PLACE && place <= MAX_PLACE;
    }

    private int farthestOut(Pile some) {
        int farthest = 0;
        for (int i = 0; i < some.size; i++) {
            farthest = Math.max(farthest, some.places[i] + told.longs[some.books[i]]);
        }
        return farthest;
    }

    private boolean canBear(int book, int at) {
        if (!isBook(book) || pile.levelOf(book) == NONE || at < 0 || at > told.longs[book]) {
            return false;
        }
        balance.weigh(told, pile);
        return true;
    }

    /** A glued level stands at every place, so it goes the whole way. */
    private void pushRight(int level) {
        balance.weigh(told, trial);
        boolean standing = balance.levelStands(level);
        for (int n = 1; n <= MAX_SHIFT && standing; n++) {
            trial.shift(level, 1);
            balance.weigh(told, trial);
            standing = balance.levelStands(level);
            if (!standing) {
                trial.shift(level, -1);
            }
        }
    }

    private int waysOn(int kept) {
        int sum = 0;
        for (int i = 0; i < MAX_BOOKS; i++) {
            if ((kept & (1 << i)) != 0) {
                sum += ways[kept & ~(1 << i)];
            }
        }
        return sum;
    }

    private boolean canFit(int most, int k) {
        return most >= 1 && most <= MAX_FIT && k >= 0 && k <= fitting.size;
    }

    private int fliesInPile() {
        int sitting = 0;
        for (int i = 0; i < told.flies; i++) {
            if (pile.levelOf(told.flyBooks[i]) != NONE) {
                sitting++;
            }
        }
        return sitting;
    }

    /** The TOKENS of a tape, up to the 401st, and its end behind them. */
    private static final class Tokens {
        private final long[] words = new long[WORD_COUNT];
        private final int[] kinds = new int[MAX_TOKENS + 2];
        private final int[] starts = new int[MAX_TOKENS + 2];
        private final long[] values = new long[MAX_TOKENS + 2];
        private int size = 0;

        private Tokens() {
            int word = 0;
            long packed = 0;
            for (int i = 0; i < WORDS.length() && word < WORD_COUNT; i++) {
                char letter = WORDS.charAt(i);
                if (letter == ' ') {
                    words[word] = packed;
                    word++;
                    packed = 0;
                } else {
                    packed = packLetter(packed, letter);
                }
            }
        }

        private void scan(char[] tape, int length) {
            size = 0;
            int at = 0;
            for (int i = 0; i < MAX_TAPE && at < length && size <= MAX_TOKENS; i++) {
                int end = endOfRun(tape, at, length);
                if (!isBlank(tape[at])) {
                    note(tape, at, end);
                }
                at = end;
            }
            kinds[size] = END;
            starts[size] = length;
        }

        private static int endOfRun(char[] tape, int at, int length) {
            boolean letters = isLetter(tape[at]);
            boolean digits = isDigit(tape[at]);
            int end = at + 1;
            while (end < length && (letters && isLetter(tape[end]) || digits && isDigit(tape[end]))) {
                end++;
            }
            return end;
        }

        private void note(char[] tape, int at, int end) {
            char first = tape[at];
            kinds[size] = NO_TOKEN;
            starts[size] = at;
            values[size] = 0;
            if (isLetter(first) && end - at <= MAX_LETTERS) {
                noteWord(tape, at, end);
            } else if (isDigit(first) && end - at <= MAX_DIGITS) {
                noteInt(tape, at, end);
            } else if (SIGNS.indexOf(first) >= 0) {
                kinds[size] = first;
            }
            size++;
        }

        private void noteWord(char[] tape, int at, int end) {
            long packed = 0;
            for (int i = at; i < end; i++) {
                packed = packLetter(packed, tape[i]);
            }
            kinds[size] = NAME;
            values[size] = packed;
            for (int word = 0; word < WORD_COUNT; word++) {
                if (words[word] == packed) {
                    kinds[size] = word;
                }
            }
        }

        private void noteInt(char[] tape, int at, int end) {
            int value = 0;
            for (int i = at; i < end; i++) {
                value = value * 10 + tape[i] - '0';
            }
            kinds[size] = INT;
            values[size] = value;
        }

        /** Five bits a letter and none of them 0, so that no two NAMES are packed alike. */
        private static long packLetter(long packed, char letter) {
            return packed * 32 + letter - 'a' + 1;
        }

        private static boolean isLetter(char sign) {
            return sign >= 'a' && sign <= 'z';
        }

        private static boolean isDigit(char sign) {
            return sign >= '0' && sign <= '9';
        }

        private static boolean isBlank(char sign) {
            return sign == 9 || sign == 10 || sign == 13 || sign == 32;
        }
    }

    /**
     * Reads TOKENS into a text. A SYNTAX or ROOM fault ends it; what is wrong in what is told is only
     * kept (the first of it), for a SYNTAX or ROOM fault goes ahead of it wherever that stands.
     */
    private static final class Parser {
        private final Tokens tokens;
        private Told told;
        private int next = 0;
        private int fault = 0;
        private int faultPlace = NONE;
        private int slip = 0;
        private int slipPlace = NONE;
        private int bookTells = 0;
        private int flyTells = 0;

        private Parser(Tokens from, Told into) {
            tokens = from;
            told = into;
        }

        private void parse(Told into) {
            start(into);
            for (int i = 0; i <= MAX_TOKENS && fault == 0 && tokens.kinds[next] != END; i++) {
                switch (tokens.kinds[next]) {
                    case BOOK: tellBook(); break;
                    case HEAVY: tellHeavy(); break;
                    case TABLE: tellTable(); break;
                    case PILE: tellPile(); break;
                    case FLY: tellFly(); break;
                    default: fail(SYNTAX); break;
                }
            }
            if (fault == 0) {
                fault = slip;
                faultPlace = slipPlace;
            }
        }

        private void start(Told into) {
            told = into;
            told.empty();
            next = 0;
            fault = 0;
            faultPlace = NONE;
            slip = 0;
            slipPlace = NONE;
            bookTells = 0;
            flyTells = 0;
        }

        private void tellBook() {
            if (bookTells == MAX_BOOKS) {
                fail(ROOM);
                return;
            }
            bookTells++;
            take(BOOK);
            int name = take(NAME);
            int howLong = take(INT);
            int weight = take(INT);
            take(';');
            if (fault != 0) {
                return;
            }
            if (told.bookNamed(tokens.values[name]) != NONE) {
                slipAt(TWICE, name);
            }
            checkInt(howLong, 1, MAX_LONG);
            checkInt(weight, 1, MAX_WEIGHT);
            if (slip == 0) {
                told.addBook(tokens.values[name], intAt(howLong), intAt(weight));
            }
        }

        private void tellHeavy() {
            take(HEAVY);
            int name = take(NAME);
            take('=');
            int book = knownBook(name);
            int start = told.codeSize;
            for (int ifs = 0; ifs <= MAX_IFS && fault == 0 && tokens.kinds[next] == IF; ifs++) {
                if (ifs == MAX_IFS) {
                    fail(ROOM);
                    return;
                }
                take(IF);
                expression(0);
                take('<');
                expression(0);
                int unless = told.emit(UNLESS_LESS, 0);
                take(THEN);
                expression(0);
                told.emit(GIVE, 0);
                take(ELSE);
                told.aim(unless);
            }
            expression(0);
            told.emit(GIVE, 0);
            take(';');
            if (fault == 0 && slip == 0 && book != NONE) {
                told.lawStarts[book] = start;
            }
        }

        private void tellTable() {
            take(TABLE);
            int wide = take(INT);
            take(';');
            if (fault == 0) {
                checkInt(wide, 1, MAX_TABLE);
                told.table = intAt(wide);
            }
        }

        private void tellPile() {
            take(PILE);
            told.pile.size = 0;
            for (int i = 0; i <= MAX_TOKENS && fault == 0 && tokens.kinds[next] == NAME; i++) {
                tellPiled();
            }
            take(';');
        }

        private void tellPiled() {
            int name = take(NAME);
            take(AT);
            int sign = 1;
            if (tokens.kinds[next] == '-') {
                take('-');
                sign = -1;
            }
            int place = take(INT);
            boolean glued = tokens.kinds[next] == GLUED;
            if (glued) {
                take(GLUED);
            }
            if (fault != 0) {
                return;
            }
            int book = knownBook(name);
            if (book != NONE && told.pile.levelOf(book) != NONE) {
                slipAt(TWICE, name);
            }
            checkInt(place, 0, MAX_PLACE);
            if (slip == 0) {
                told.pile.put(book, sign * intAt(place), glued);
            }
        }

        private void tellFly() {
            if (flyTells == MAX_FLIES) {
                fail(ROOM);
                return;
            }
            flyTells++;
            take(FLY);
            int weight = take(INT);
            take(ON);
            int name = take(NAME);
            int at = take(INT);
            take(';');
            if (fault != 0) {
                return;
            }
            checkInt(weight, 0, MAX_FLY);
            int book = knownBook(name);
            if (book != NONE) {
                checkInt(at, 0, told.longs[book]);
            }
            if (slip == 0) {
                told.addFly(intAt(weight), book, intAt(at));
            }
        }

        private void expression(int nested) {
            part(nested);
            for (int i = 0; i <= MAX_TOKENS && fault == 0; i++) {
                int sign = tokens.kinds[next];
                if (sign != '+' && sign != '-') {
                    return;
                }
                take(sign);
                part(nested);
                told.emit(sign, 0);
            }
        }

        private void part(int nested) {
            unit(nested);
            for (int i = 0; i <= MAX_TOKENS && fault == 0; i++) {
                int sign = tokens.kinds[next];
                if (sign != '*' && sign != '/') {
                    return;
                }
                take(sign);
                unit(nested);
                told.emit(sign, 0);
            }
        }

        private void unit(int nested) {
            int kind = tokens.kinds[next];
            if (fault != 0) {
                return;
            }
            if (kind == INT) {
                told.emit(PUSH, (int) tokens.values[next]);
                take(INT);
            } else if (kind >= LONG && kind <= ABOVE) {
                told.emit(PUSH_VAR, kind);
                take(kind);
            } else if (kind != '(') {
                fail(SYNTAX);
            } else if (nested == MAX_NESTED) {
                fail(ROOM);
            } else {
                take('(');
                expression(nested + 1);
                take(')');
            }
        }

        /** Goes past a TOKEN of a kind: its number. Behind a fault it stays where it is. */
        private int take(int kind) {
            int taken = next;
            if (fault != 0) {
                return taken;
            }
            if (tokens.kinds[next] != kind) {
                fail(SYNTAX);
            } else if (next >= MAX_TOKENS) {
                fail(ROOM);
            } else {
                next++;
            }
            return taken;
        }

        private void fail(int number) {
            if (fault == 0) {
                fault = number;
                faultPlace = tokens.starts[next];
            }
        }

        /** What is told is looked at in the order of its places, so the first slip is the one that counts. */
        private void slipAt(int number, int token) {
            if (slip == 0) {
                slip = number;
                slipPlace = tokens.starts[token];
            }
        }

        private void checkInt(int token, int least, int greatest) {
            if (intAt(token) < least || intAt(token) > greatest) {
                slipAt(WRONG, token);
            }
        }

        private int intAt(int token) {
            return (int) tokens.values[token];
        }

        private int knownBook(int token) {
            int book = told.bookNamed(tokens.values[token]);
            if (book == NONE) {
                slipAt(NAME_UNKNOWN, token);
            }
            return book;
        }
    }

    /** What a text tells: BOOKS, their laws, the TABLE, FLIES and the first PILE. */
    private static final class Told {
        private int books = 0;
        private final long[] names = new long[MAX_BOOKS];
        private final int[] longs = new int[MAX_BOOKS];
        private final int[] weights = new int[MAX_BOOKS];
        private final int[] lawStarts = new int[MAX_BOOKS];
        private int codeSize = 0;
        private final int[] ops = new int[MAX_TOKENS];
        private final int[] args = new int[MAX_TOKENS];
        private final int[] stack = new int[STACK];
        private int table = USUAL_TABLE;
        private int flies = 0;
        private final int[] flyBooks = new int[MAX_FLIES];
        // All FLIES of a BOOK: how heavy, and their weights times how far from its left end.
        private final int[] flyLoads = new int[MAX_BOOKS];
        private final int[] flyTurns = new int[MAX_BOOKS];
        private final Pile pile = new Pile();

        private void empty() {
            books = 0;
            codeSize = 0;
            table = USUAL_TABLE;
            flies = 0;
            pile.size = 0;
        }

        private int bookNamed(long name) {
            for (int i = 0; i < books; i++) {
                if (names[i] == name) {
                    return i;
                }
            }
            return NONE;
        }

        private void addBook(long name, int howLong, int weight) {
            if (books < MAX_BOOKS) {
                names[books] = name;
                longs[books] = howLong;
                weights[books] = weight;
                lawStarts[books] = NONE;
                flyLoads[books] = 0;
                flyTurns[books] = 0;
                books++;
            }
        }

        private void addFly(int weight, int book, int at) {
            if (flies < MAX_FLIES && book >= 0 && book < books) {
                flyBooks[flies] = book;
                flyLoads[book] += weight;
                flyTurns[book] += weight * at;
                flies++;
            }
        }

        /** Never more than one for a TOKEN, so that the row is long enough. */
        private int emit(int op, int arg) {
            if (codeSize >= MAX_TOKENS) {
                return NONE;
            }
            ops[codeSize] = op;
            args[codeSize] = arg;
            codeSize++;
            return codeSize - 1;
        }

        /** A condition that does not hold goes on behind what has been told up to now. */
        private void aim(int condition) {
            if (condition >= 0 && condition < codeSize) {
                args[condition] = codeSize;
            }
        }

        private int weighs(Pile some, int level) {
            int book = some.books[level];
            if (lawStarts[book] == NONE) {
                return weights[book];
            }
            return Math.max(1, Math.min(MAX_WEIGHS, runLaw(lawStarts[book], some, level)));
        }

        private int runLaw(int start, Pile some, int level) {
            int top = 0;
            for (int at = start; at < codeSize && top < STACK; at++) {
                int op = ops[at];
                if (op == PUSH || op == PUSH_VAR) {
                    stack[top] = op == PUSH ? args[at] : variable(args[at], some, level);
                    top++;
                } else if (op == GIVE) {
                    return top < 1 ? 0 : stack[top - 1];
                } else if (top < 2) {
                    return 0;
                } else if (op == UNLESS_LESS) {
                    top -= 2;
                    if (stack[top] >= stack[top + 1]) {
                        at = Math.max(at, args[at] - 1);
                    }
                } else {
                    top--;
                    if (op == '/' && stack[top] == 0) {
                        return 0;
                    }
                    stack[top - 1] = reckon(op, stack[top - 1], stack[top]);
                }
            }
            return 0;
        }

        private int variable(int kind, Pile some, int level) {
            int book = some.books[level];
            switch (kind) {
                case LONG: return longs[book];
                case TOLD: return weights[book];
                case LEVEL: return level;
                case PLACE: return some.places[level];
                default: return some.size - 1 - level;
            }
        }

        private static int reckon(int sign, int a, int b) {
            switch (sign) {
                case '+': return a + b;
                case '-': return a - b;
                case '*': return a * b;
                default: return b == 0 ? 0 : a / b;
            }
        }
    }

    /** BOOKS on one another, from the lowest level up. */
    private static final class Pile {
        private int size = 0;
        private final int[] books = new int[MAX_BOOKS];
        private final int[] places = new int[MAX_BOOKS];
        private final boolean[] glued = new boolean[MAX_BOOKS];

        private void put(int book, int place, boolean glue) {
            if (size < MAX_BOOKS && book >= 0 && book < MAX_BOOKS) {
                books[size] = book;
                places[size] = place;
                glued[size] = glue;
                size++;
            }
        }

        private void drop() {
            if (size > 0) {
                size--;
            }
        }

        private void shift(int from, int by) {
            for (int i = Math.max(0, from); i < size; i++) {
                places[i] += by;
            }
        }

        private int levelOf(int book) {
            for (int i = 0; i < size; i++) {
                if (books[i] == book) {
                    return i;
                }
            }
            return NONE;
        }

        private void copyFrom(Pile other) {
            size = 0;
            for (int i = 0; i < other.size; i++) {
                put(other.books[i], other.places[i], other.glued[i]);
            }
        }

        /** The levels whose bits are set; glue lasts only while the BOOK it was glued to is there. */
        private void keepOf(Pile other, int kept) {
            size = 0;
            for (int i = 0; i < other.size; i++) {
                boolean belowKept = i > 0 && (kept & (1 << (i - 1))) != 0;
                if ((kept & (1 << i)) != 0) {
                    put(other.books[i], other.places[i], other.glued[i] && belowKept);
                }
            }
        }

        private boolean isHeldByGlue(int level) {
            return level > 0 && glued[level];
        }

        /** Where what a level lies on begins: the greater of both left ends. */
        private int restLeft(Told told, int level) {
            int below = level == 0 ? -told.table : places[level - 1];
            return Math.max(below, places[level]);
        }

        private int restRight(Told told, int level) {
            int below = level == 0 ? 0 : rightEnd(told, level - 1);
            return Math.min(below, rightEnd(told, level));
        }

        private int rightEnd(Told told, int level) {
            return places[level] + told.longs[books[level]];
        }

        /** Twice, since the middle of a BOOK may lie between two numbers. */
        private int twiceMiddle(Told told, int level) {
            return places[level] + rightEnd(told, level);
        }

        private int twiceFlyTurn(Told told, int level) {
            int book = books[level];
            return 2 * (places[level] * told.flyLoads[book] + told.flyTurns[book]);
        }
    }

    /** LOADS of the PILE weighed last, and what follows from them. */
    private static final class Balance {
        private Told told;
        private Pile pile;
        private final int[] loads = new int[MAX_BOOKS];
        // Twice the POINT of a level times its LOAD.
        private final int[] moments = new int[MAX_BOOKS];
        private int lightest = 0;
        private int heaviest = 0;

        private Balance(Told by, Pile what) {
            told = by;
            pile = what;
        }

        private void weigh(Told by, Pile what) {
            told = by;
            pile = what;
            int load = 0;
            int moment = 0;
            for (int i = pile.size - 1; i >= 0; i--) {
                int weight = told.weighs(pile, i);
                load += weight + told.flyLoads[pile.books[i]];
                moment += weight * pile.twiceMiddle(told, i) + pile.twiceFlyTurn(told, i);
                loads[i] = load;
                moments[i] = moment;
            }
        }

        private boolean allStand(Told by, Pile what) {
            weigh(by, what);
            return lowestFalling() == NONE;
        }

        private int lowestFalling() {
            for (int i = 0; i < pile.size; i++) {
                if (!levelStands(i)) {
                    return i;
                }
            }
            return NONE;
        }

        /** A level that does not LIE on what is below fails both ends at once: no LOAD is 0. */
        private boolean levelStands(int level) {
            if (pile.isHeldByGlue(level)) {
                return true;
            }
            int twice = 2 * loads[level];
            return pile.restLeft(told, level) * twice <= moments[level]
                && moments[level] <= pile.restRight(told, level) * twice;
        }

        private boolean fallsRight(int level) {
            int left = pile.restLeft(told, level);
            int right = pile.restRight(told, level);
            if (left <= right) {
                return moments[level] > right * 2 * loads[level];
            }
            int rightBelow = level == 0 ? 0 : pile.rightEnd(told, level - 1);
            return pile.places[level] > rightBelow;
        }

        /** Finds the lightest and the heaviest FLY more at a place: false if the PILE stands with none. */
        private boolean bearing(int bookLevel, int at) {
            lightest = 0;
            heaviest = MAX_FLY_MORE;
            int spot = pile.places[bookLevel] + at;
            for (int i = 0; i < pile.size; i++) {
                if (!pile.isHeldByGlue(i)) {
                    int left = pile.restLeft(told, i);
                    int right = pile.restRight(told, i);
                    boolean carries = i <= bookLevel;
                    narrow(carries ? 2 * (left - spot) : 0, moments[i] - 2 * left * loads[i]);
                    narrow(carries ? 2 * (spot - right) : 0, 2 * right * loads[i] - moments[i]);
                }
            }
            return lightest <= heaviest;
        }

        /** Keeps the FLIES whose weight times a is b at most. */
        private void narrow(int a, int b) {
            if (a > 0) {
                heaviest = Math.min(heaviest, Math.floorDiv(b, a));
            } else if (a < 0) {
                lightest = Math.max(lightest, -Math.floorDiv(b, -a));
            } else if (b < 0) {
                heaviest = NONE;
            }
        }
    }

    /** The last things done, as a ring: the oldest makes room. */
    private static final class Past {
        private int size = 0;
        private int newest = 0;
        private final int[] kinds = new int[MAX_UNDO];
        private final int[] whats = new int[MAX_UNDO];
        private final int[] amounts = new int[MAX_UNDO];
        private final boolean[] glues = new boolean[MAX_UNDO];

        private void note(int kind, int what, int amount, boolean glue) {
            newest = (newest + 1) % MAX_UNDO;
            kinds[newest] = kind;
            whats[newest] = what;
            amounts[newest] = amount;
            glues[newest] = glue;
            size = Math.min(MAX_UNDO, size + 1);
        }

        private boolean takeBack(Pile pile) {
            if (size == 0) {
                return false;
            }
            switch (kinds[newest]) {
                case LAID: pile.drop(); break;
                case LIFTED: pile.put(whats[newest], amounts[newest], glues[newest]); break;
                default: pile.shift(whats[newest], -amounts[newest]); break;
            }
            newest = (newest + MAX_UNDO - 1) % MAX_UNDO;
            size--;
            return true;
        }
    }

    private static final class Slots {
        private final Pile[] piles = new Pile[MAX_SLOTS];
        private final boolean[] full = new boolean[MAX_SLOTS];

        private Slots() {
            for (int i = 0; i < MAX_SLOTS; i++) {
                piles[i] = new Pile();
            }
        }

        private void empty() {
            for (int i = 0; i < MAX_SLOTS; i++) {
                full[i] = false;
            }
        }

        private boolean keep(int slot, Pile pile) {
            if (slot < 0 || slot >= MAX_SLOTS) {
                return false;
            }
            piles[slot].copyFrom(pile);
            full[slot] = true;
            return true;
        }

        private boolean giveBack(int slot, Pile pile) {
            if (slot < 0 || slot >= MAX_SLOTS || !full[slot]) {
                return false;
            }
            pile.copyFrom(piles[slot]);
            return true;
        }

        private int filled() {
            int sum = 0;
            for (int i = 0; i < MAX_SLOTS; i++) {
                sum += full[i] ? 1 : 0;
            }
            return sum;
        }
    }

    /** One SEEN pile, reckoned so far that only the WEIGHTS of its BOOKS are missing. */
    private static final class Sight {
        private boolean stood = false;
        private int size = 0;
        private final int[] books = new int[MAX_BOOKS];
        private final int[] middles = new int[MAX_BOOKS];
        private final int[] flyLoads = new int[MAX_BOOKS];
        private final int[] flyMoments = new int[MAX_BOOKS];
        private final int[] lefts = new int[MAX_BOOKS];
        private final int[] rights = new int[MAX_BOOKS];
        private final boolean[] glued = new boolean[MAX_BOOKS];

        private void take(Told told, Pile pile, boolean whetherStood) {
            stood = whetherStood;
            size = pile.size;
            for (int i = 0; i < size; i++) {
                books[i] = pile.books[i];
                middles[i] = pile.twiceMiddle(told, i);
                flyLoads[i] = told.flyLoads[books[i]];
                flyMoments[i] = pile.twiceFlyTurn(told, i);
                lefts[i] = 2 * pile.restLeft(told, i);
                rights[i] = 2 * pile.restRight(told, i);
                glued[i] = pile.isHeldByGlue(i);
            }
        }

        private boolean agrees(int[] row) {
            int load = 0;
            int moment = 0;
            for (int i = size - 1; i >= 0; i--) {
                int weight = row[books[i]];
                load += weight + flyLoads[i];
                moment += weight * middles[i] + flyMoments[i];
                if (!glued[i] && (moment < lefts[i] * load || moment > rights[i] * load)) {
                    return !stood;
                }
            }
            return stood;
        }
    }

    /** All SEEN piles, and the rows of WEIGHTS that FIT. */
    private static final class Fitting {
        private int size = 0;
        private final Sight[] sights = new Sight[MAX_SEEN];
        private final int[] row = new int[MAX_BOOKS];
        private final int[] asked = new int[MAX_BOOKS];
        private int askedSize = 0;
        private int rows = 0;
        private final int[] least = new int[MAX_BOOKS];
        private final int[] greatest = new int[MAX_BOOKS];

        private Fitting() {
            for (int i = 0; i < MAX_SEEN; i++) {
                sights[i] = new Sight();
            }
        }

        private int note(Told told, Pile pile, boolean stood) {
            if (size >= MAX_SEEN) {
                return NONE;
            }
            sights[size].take(told, pile, stood);
            size++;
            return size - 1;
        }

        /** A BOOK that lies in no KNOWN pile fits with every weight: it only multiplies the rows. */
        private void search(int books, int most, int known) {
            int free = prepare(books, most, known);
            int tries = 1;
            for (int i = 0; i < askedSize; i++) {
                tries *= most;
            }
            rows = 0;
            for (int i = 0; i < tries; i++) {
                fillRow(i, most);
                if (agree(known)) {
                    rows++;
                    widen();
                }
            }
            rows *= free;
        }

        private int prepare(int books, int most, int known) {
            int free = 1;
            askedSize = 0;
            for (int book = 0; book < books && book < MAX_BOOKS; book++) {
                if (isAsked(book, known)) {
                    asked[askedSize] = book;
                    askedSize++;
                    least[book] = most;
                    greatest[book] = 1;
                } else {
                    free *= most;
                    least[book] = 1;
                    greatest[book] = most;
                }
            }
            return free;
        }

        private boolean isAsked(int book, int known) {
            for (int i = 0; i < known && i < MAX_SEEN; i++) {
                for (int level = 0; level < sights[i].size; level++) {
                    if (sights[i].books[level] == book) {
                        return true;
                    }
                }
            }
            return false;
        }

        private void fillRow(int number, int most) {
            int rest = number;
            for (int i = 0; i < askedSize && most > 0; i++) {
                row[asked[i]] = 1 + rest % most;
                rest /= most;
            }
        }

        private boolean agree(int known) {
            for (int i = 0; i < known && i < MAX_SEEN; i++) {
                if (!sights[i].agrees(row)) {
                    return false;
                }
            }
            return true;
        }

        private void widen() {
            for (int i = 0; i < askedSize; i++) {
                int book = asked[i];
                least[book] = Math.min(least[book], row[book]);
                greatest[book] = Math.max(greatest[book], row[book]);
            }
        }
    }

    /** How far orders of BOOKS reach. */
    private static final class Orders {
        private final Ratio[] bests = new Ratio[SUBSETS];
        private final int[] lowest = new int[SUBSETS];
        private final Ratio attempt = new Ratio();

        private Orders() {
            for (int i = 0; i < SUBSETS; i++) {
                bests[i] = new Ratio();
            }
        }

        /** From the last digit on, for that is the topmost BOOK, on which nothing lies. */
        private boolean measure(Told told, int order, Ratio answer) {
            answer.become(0, 1);
            int used = 0;
            int weight = 0;
            int rest = order;
            for (int i = 0; i < MAX_BOOKS && rest > 0; i++) {
                int book = rest % 10 - 1;
                rest /= 10;
                if (book < 0 || book >= told.books || (used & (1 << book)) != 0) {
                    return false;
                }
                used |= 1 << book;
                weight += told.weights[book];
                answer.add(told.weights[book] * told.longs[book], 2L * weight);
            }
            return order > 0 && rest == 0;
        }

        /** The best of a set is its lowest BOOK and the best of the others: what lies below changes nothing above. */
        private int findBest(Told told, int set) {
            bests[0].become(0, 1);
            for (int part = 1; part <= set && part < SUBSETS; part++) {
                if ((part & ~set) == 0) {
                    chooseLowest(told, part);
                }
            }
            int number = 0;
            int rest = set;
            for (int i = 0; i < MAX_BOOKS && rest > 0 && rest < SUBSETS; i++) {
                number = number * 10 + lowest[rest] + 1;
                rest &= ~(1 << lowest[rest]);
            }
            return number;
        }

        private void chooseLowest(Told told, int part) {
            int weight = 0;
            for (int book = 0; book < told.books; book++) {
                weight += (part & (1 << book)) != 0 ? told.weights[book] : 0;
            }
            bests[part].become(0, 1);
            for (int book = 0; book < told.books; book++) {
                if ((part & (1 << book)) != 0) {
                    attempt.copyFrom(bests[part & ~(1 << book)]);
                    attempt.add(told.weights[book] * told.longs[book], 2L * weight);
                    if (attempt.isMoreThan(bests[part])) {
                        bests[part].copyFrom(attempt);
                        lowest[part] = book;
                    }
                }
            }
        }
    }

    /** A fraction that cannot be lessened, its part below the line above 0. */
    private static final class Ratio {
        private static final int MANY_STEPS = 200;
        private long above = 0;
        private long below = 1;

        private void become(long newAbove, long newBelow) {
            long common = divisor(Math.abs(newAbove), newBelow);
            if (common > 0) {
                above = newAbove / common;
                below = newBelow / common;
            }
        }

        private void copyFrom(Ratio other) {
            above = other.above;
            below = other.below;
        }

        private void add(long moreAbove, long moreBelow) {
            long common = divisor(below, moreBelow);
            if (common > 0) {
                long times = moreBelow / common;
                become(above * times + moreAbove * (below / common), below * times);
            }
        }

        private long part(boolean ofBelow) {
            return ofBelow ? below : above;
        }

        /**
         * Step by step as Euclid does, for the products across would not fit a long. Both are 0 or more.
         */
        private boolean isMoreThan(Ratio other) {
            long a = above;
            long b = below;
            long c = other.above;
            long d = other.below;
            boolean turned = false;
            for (int i = 0; i < MANY_STEPS && b > 0 && d > 0; i++) {
                if (a / b != c / d) {
                    return a / b > c / d != turned;
                }
                long restA = a % b;
                long restC = c % d;
                if (restA == 0 || restC == 0) {
                    return turned ? restA < restC : restA > restC;
                }
                a = b;
                b = restA;
                c = d;
                d = restC;
                turned = !turned;
            }
            return false;
        }

        private static long divisor(long a, long b) {
            long greater = a;
            long lesser = b;
            for (int i = 0; i < MANY_STEPS && lesser != 0; i++) {
                long rest = greater % lesser;
                greater = lesser;
                lesser = rest;
            }
            return greater;
        }
    }
}
