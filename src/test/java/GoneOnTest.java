import java.util.ArrayList;
import java.util.List;
import java.util.Random;

/**
 * Long runs judged by themselves, without a second telling of the document: a text read, a thing undone, a pile
 * restored must leave the object as if what came between had never been. The seeds are fixed.
 */
public final class GoneOnTest extends Checks {
    private static final int SEEDS = 60;
    private static final int STEPS = 120;
    private static final String[] FAULTY = {"#", "table 0;", "book a 9 9;book a 1 1;", "book z 5 5;pile z at 1 z at 2;",
        "heavy zz=1;", "book z 3 3;fly 1 on z 4;"};

    public static void main(String[] args) {
        for (long seed = 0; seed < SEEDS; seed++) {
            String text = goodText(new Random(seed));
            textInPlaceOfTheOneAhead(text, seed);
            undoneAsItWas(text, seed);
            heldAsItWas(text, seed);
            seenAsItWas(text, seed);
            whateverTheWay(text, seed);
        }
        finish();
    }

    /** Without a FAULT, with a pile to play with, and short enough to leave calls for the run. */
    private static String goodText(Random random) {
        Texts texts = new Texts(random);
        for (int i = 0; i < 10000; i++) {
            String text = texts.any(false);
            EdgePile x = new EdgePile();
            if (text.length() < 600 && Texts.read(x, text) == 0 && x.count(0) > 2) return text;
        }
        throw new IllegalStateException("no good text");
    }

    /** The same calls for the same seed, whatever they answer: all but the reading of a good text. */
    private static void wander(EdgePile x, long seed, int steps) {
        Random random = new Random(seed);
        for (int i = 0; i < steps; i++) {
            int a = random.nextInt(7) - 1;
            int b = random.nextInt(60) - 40;
            boolean c = random.nextBoolean();
            switch (random.nextInt(24)) {
                case 0, 1, 2, 3, 4, 5 -> x.lay(a, b, c);
                case 6, 7 -> x.lift();
                case 8, 9, 10, 11 -> x.move(a, b / 4);
                case 12 -> x.undo();
                case 13 -> x.hold(a);
                case 14 -> x.restore(a);
                case 15 -> x.see(c);
                case 16 -> x.fits(2, a);
                case 17 -> x.span(3, a, 1);
                case 18 -> x.bestOrder(b);
                case 19 -> x.takings();
                case 20 -> x.pushed(1);
                case 21 -> x.slides(a, c);
                case 22 -> x.reach(312, c);
                default -> faulty(x, FAULTY[random.nextInt(FAULTY.length)]);
            }
        }
    }

    private static void faulty(EdgePile x, String text) {
        x.back(x.count(5));
        yes("a FAULT", Texts.read(x, text) > 0);
    }

    private static EdgePile wandered(String text, long seed) {
        EdgePile x = told(text);
        wander(x, seed, STEPS);
        return x;
    }

    private static List<Long> toldBy(EdgePile x) {
        List<Long> all = new ArrayList<>();
        Looks.told(x, all);
        return all;
    }

    private static void same(String what, List<Long> got, List<Long> want) {
        due(what + " (" + got + " for " + want + ")", got.equals(want) ? 1 : 0, 1);
    }

    private static void textInPlaceOfTheOneAhead(String text, long seed) {
        says("else it is in place of the one ahead: the PILE as told, nothing can be undone, nothing is SEEN, SLOTS hold nothing.");
        String next = goodText(new Random(1000 + seed));
        for (String probe : Looks.PROBES) {
            EdgePile x = wandered(text, seed);
            x.back(x.count(5));
            due("read again", Texts.read(x, next), 0);
            same(probe + " of a later text", Looks.seen(x, probe), Looks.seen(told(next), probe));
            EdgePile again = wandered(text, seed);
            again.back(again.count(5));
            due("read the same", Texts.read(again, text), 0);
            same(probe + " of the same text", Looks.seen(again, probe), Looks.seen(told(text), probe));
        }
    }

    private static void undoneAsItWas(String text, long seed) {
        says("The last thing done (lay, lift, move) is undone: true; false: there is none (the last 50 can be).");
        Random random = new Random(2000 + seed);
        EdgePile x = wandered(text, seed);
        EdgePile twin = wandered(text, seed);
        int things = random.nextInt(51);
        for (int done = 0; done < things; ) done += thing(x, random) ? 1 : 0;
        for (int i = 0; i < things; i++) yes("undo " + i + " of " + things, x.undo());
        same("told behind " + things + " undone", toldBy(x), toldBy(twin));
    }

    /** Whether a thing was done that can be undone. */
    private static boolean thing(EdgePile x, Random random) {
        int book = random.nextInt(6);
        return switch (random.nextInt(3)) {
            case 0 -> x.lay(book, random.nextInt(1999) - 999, random.nextBoolean()) >= 0;
            case 1 -> x.lift() >= 0;
            default -> x.move(random.nextInt(6), random.nextInt(41) - 20);
        };
    }

    private static void heldAsItWas(String text, long seed) {
        says("It goes on from what a SLOT holds (that stays there; nothing can be undone then): true");
        int slot = (int) seed % 3;
        EdgePile x = wandered(text, seed);
        List<Long> want = toldBy(wandered(text, seed));
        yes("hold", x.hold(slot));
        Random random = new Random(3000 + seed);
        for (int i = 0; i < 30; i++) thing(x, random);
        faulty(x, FAULTY[(int) seed % FAULTY.length]);
        yes("restore", x.restore(slot));
        no("undo", x.undo());
        same("told when restored", toldBy(x), want);
        for (int i = 0; i < 30; i++) thing(x, random);
        yes("restore again", x.restore(slot));
        due("things that can be undone", x.count(6), 0);
        same("told when restored again", toldBy(x), want);
    }

    private static void seenAsItWas(String text, long seed) {
        says("KNOWN by k: the first k.");
        EdgePile x = told(text);
        Random random = new Random(4000 + seed);
        List<Long> rows = new ArrayList<>();
        for (int k = 0; k <= 6; k++) {
            rows.addAll(rowsOf(x, k));
            for (int i = 0; i < 8; i++) thing(x, random);
            x.hold(k % 3);
            if (k < 6) due("see", x.see(k % 2 == 0 ? x.stands() : random.nextInt(4) > 0), k);
            else due("a 7th", x.see(true), -1);
            x.restore(random.nextInt(3));
            x.undo();
        }
        faulty(x, FAULTY[(int) seed % FAULTY.length]);
        List<Long> later = new ArrayList<>();
        for (int k = 0; k <= 6; k++) later.addAll(rowsOf(x, k));
        same("rows known by k", later, rows);
    }

    private static List<Long> rowsOf(EdgePile x, int k) {
        List<Long> all = new ArrayList<>();
        all.add((long) x.fits(3, k));
        for (int book = 0; book < x.count(0); book++) all.add((long) x.span(3, k, book));
        return all;
    }

    private static void whateverTheWay(String text, long seed) {
        says("A BOOK that is not in the PILE is laid on top at a PLACE (-999 .. 999), glued or not: its level");
        EdgePile x = wandered(text, seed);
        EdgePile straight = told(text);
        while (straight.lift() >= 0) yes("one less", straight.count(1) < 6);
        for (int level = 0; level < x.count(1); level++) {
            int book = x.level(level);
            due("lay", straight.lay(book, x.book(book, 4), x.book(book, 5) == 1), level);
        }
        same("told of the same pile", toldBy(straight), toldBy(x));
    }
}
