import java.util.Random;

/**
 * Runs as long as an object is used for, 512 calls: texts are read again and again (new ones, the same once more,
 * short ones, with FAULTS, with other calls between their bytes), piles are changed, undone, held and gone on from,
 * SEEN and forgotten, and looked at in between. Every answer must be that of PlainPile; the seeds are fixed.
 */
public final class LongRunsTest {
    private static final int CALLS = 512;
    private static final int RUNS = Integer.getInteger("runs", 400);
    private static final String[] SHORT = {"", " \n", "table 7;", "pile;", "book a 9 3;", "book b 6 2;pile b at -4;",
        "book a 4 1;book b 8 9;fly 9 on b 0;pile a at -3 b at -7;", "book c 9 20;heavy c=9-place;pile c at -8 glued;",
        "book a 9 3;book b 9 3;book c 9 1;pile a at -9 b at -9 c at 1 glued;", "table 999;", "book a 99 20;",
        "book z 5 5;book az 9 4;book zaz 3 2;book aa 8 3;pile az at -9 zaz at -8 aa at -9;",
        "book a 20 5;heavy a=" + "1+2*3-".repeat(12) + "9;pile a at -12;"};
    private static final String[] FAULTY = {"#", "table", "table 0;", "book a 1 1;book a 1 1;", "pile a at 1;",
        "heavy a=1;", "book a 99 21;", "book a 5 5;pile a at 1 a at 2;", "book a 3 3;fly 1 on a 4;", "pile;pile;;",
        "book a 5 5;heavy a=(((((((1;", "tables 5;", "book a 5 5;pile a at 1000;", "table 1000;", "book a 100 1;",
        "book a 0 1;", "book ninechars 1 1;"};
    private static final String BLANKS = " ".repeat(20);
    private static final String FOUR_HUNDRED_TOKENS = "pile;".repeat(200);
    // Which phases a run is made of, a letter for each (see run()): of all kinds; mostly reads; mostly changes; a tape
    // that is full, or as full of TOKENS as it may be; one and the same text again and again.
    private static final String[] STYLES = {"rrptTuUsshhb", "rrrrrptushb", "rTTTTUUUsh", "rtffmbh", "RRRRRRRRtush"};
    private static int deepest = 0;
    private static int mostReads = 0;

    private final Random random;
    private final Twin twin = new Twin();
    private final RandomCalls some;
    private final String style;
    private String ahead = "";
    private int reads = 0;

    private LongRunsTest(long seed) {
        // Far from the seeds of AgainstPlainTest.
        random = new Random(1_000_000 + 7919 * seed);
        some = new RandomCalls(random, twin);
        style = STYLES[(int) (seed % STYLES.length)];
    }

    public static void main(String[] args) {
        int wrong = 0;
        for (long seed = 0; seed < RUNS && wrong < 3; seed++) wrong += new LongRunsTest(seed).run() ? 0 : 1;
        System.out.println("runs " + RUNS + ", wrong " + wrong + ", undone in a row " + deepest + ", reads of one object "
            + mostReads);
        if (wrong != 0 || !askedEnough()) System.exit(1);
    }

    /** A run that never comes to something would show nothing of it. */
    private static boolean askedEnough() {
        boolean enough = deepest == 50 && mostReads >= 20;
        for (String name : Twin.ANSWERS.keySet()) {
            int calls = Twin.ANSWERS.get(name).values().stream().mapToInt(n -> n).sum();
            if (calls < RUNS || Twin.ANSWERS.get(name).size() < 2) {
                enough = false;
                System.out.println("too little asked: " + name + " " + calls);
            }
        }
        return enough && Twin.ANSWERS.size() == 32;
    }

    private boolean goesOn() {
        return twin.calls() < CALLS && !twin.wentWrong();
    }

    private boolean run() {
        if (!some.oneIn(10)) read(some.oneIn(4) ? SHORT[random.nextInt(SHORT.length)] : some.anyText());
        while (goesOn()) {
            switch (style.charAt(random.nextInt(style.length()))) {
                case 'r' -> read(nextText());
                case 'R' -> read(ahead);
                case 'p' -> readInPieces(nextText());
                case 't' -> things(1 + random.nextInt(12));
                case 'T' -> things(60 + random.nextInt(50));
                case 'f' -> fill();
                case 'm' -> manyTokens();
                case 'b' -> twin.back(some.near(0, twin.plain().count(5)));
                case 'u' -> undos(1 + random.nextInt(8));
                case 'U' -> undos(53);
                case 's' -> slots();
                default -> sights();
            }
            for (int i = 0; i < 4 && goesOn(); i++) some.ask();
        }
        mostReads = Math.max(mostReads, reads);
        return !twin.wentWrong();
    }

    private String nextText() {
        return switch (random.nextInt(6)) {
            case 0, 1 -> some.anyText();
            case 2, 3 -> ahead;
            case 4 -> SHORT[random.nextInt(SHORT.length)];
            default -> FAULTY[random.nextInt(FAULTY.length)];
        };
    }

    /** A text that would not come to its end within the run is left out. */
    private boolean hasRoomFor(String text) {
        return twin.calls() + Texts.feeds(text).length + 4 <= CALLS;
    }

    private void read(String text) {
        if (!hasRoomFor(text)) {
            some.ask();
            return;
        }
        if (!some.oneIn(8)) twin.back(twin.plain().count(5));
        some.feed(text);
        readTape(text);
    }

    /** What is on the tape stays there while other calls come, and what does not belong there goes back. */
    private void readInPieces(String text) {
        int[][] rows = Texts.feeds(text);
        if (goesOn()) twin.back(twin.plain().count(5));
        for (int i = 0; i < rows.length && goesOn(); i++) {
            twin.feed(rows[i][0], rows[i][1], rows[i][2], rows[i][3], rows[i][4]);
            if (some.oneIn(6) && goesOn()) some.change();
            if (some.oneIn(6) && goesOn() && twin.plain().count(5) <= 1980) {
                twin.feed(random.nextInt(), -1, 0, 1, random.nextInt());
                if (goesOn()) twin.back(20);
            }
        }
        if (goesOn()) twin.back(Texts.surplus(text));
        if (goesOn()) readTape(text);
    }

    /** The tape is filled until no more comes; then it is read, its last bytes those of a short text. */
    private void fill() {
        int[] blanks = Texts.feeds(BLANKS)[0];
        if (some.oneIn(2) && goesOn()) twin.back(random.nextInt(20));
        boolean came = true;
        while (goesOn() && came) came = twin.feed(blanks[0], blanks[1], blanks[2], blanks[3], blanks[4]) >= 0;
        String text = nextText();
        int rows = Texts.feeds(text).length;
        if (goesOn()) twin.back(20 * rows);
        if (!hasRoomFor(text)) return;
        some.feed(text);
        readTape(text);
    }

    private void manyTokens() {
        if (goesOn()) twin.back(twin.plain().count(5));
        read(FOUR_HUNDRED_TOKENS + (some.oneIn(2) ? "" : nextText()));
    }

    private void readTape(String text) {
        reads++;
        if (twin.read() == 0) ahead = text;
        if (goesOn()) twin.place();
    }

    private void things(int n) {
        for (int i = 0; i < n && goesOn(); i++) {
            some.thing();
            if (some.oneIn(3) && goesOn()) some.look();
        }
    }

    private void undos(int n) {
        int undone = 0;
        for (int i = 0; i < n && goesOn(); i++) {
            undone += twin.undo() ? 1 : 0;
            if (some.oneIn(8) && goesOn()) some.look();
            if (undone <= i && some.oneIn(3)) break;
        }
        deepest = Math.max(deepest, undone);
    }

    private void slots() {
        for (int i = 0; i < 6 && goesOn(); i++) {
            switch (random.nextInt(4)) {
                case 0 -> twin.hold(some.near(0, 2));
                case 1 -> twin.restore(some.near(0, 2));
                case 2 -> some.look();
                default -> some.thing();
            }
        }
    }

    private void sights() {
        if (some.oneIn(2)) twin.forget();
        for (int i = 0; i < 4 && goesOn(); i++) {
            some.see();
            if (goesOn()) some.thing();
            if (goesOn()) some.fitting();
        }
    }
}
