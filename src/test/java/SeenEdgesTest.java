/** The boundary cases of the document's part IV and of promises 27 to 30, sentence by sentence. */
public final class SeenEdgesTest extends Checks {
    private static final int LEAST = Integer.MIN_VALUE;
    private static final int MOST = Integer.MAX_VALUE;
    /** It stands just if b weighs no more than a. */
    private static final String EVEN = "book a 4 1;book b 4 9;table 9;pile a at -3 b at -1;";
    private static final String SIX = "book a 9 1;book b 9 2;book c 9 3;book d 9 4;book e 9 5;book f 9 6;";

    public static void main(String[] args) {
        sixAtMost();
        forgets();
        seenAsItIsNow();
        knownByK();
        weightsToMost();
        heavyNotAsked();
        fliesAsTold();
        justIfItStood();
        ends();
        withoutBooks();
        everyBook();
        fitsAsks();
        spans();
        spanAsks();
        seenStays();
        finish();
    }

    private static void sixAtMost() {
        says("6 at most, numbered from 0 on");
        EdgePile x = told(EVEN);
        for (int i = 0; i < 6; i++) {
            due("number", x.see(i % 2 == 0), i);
            due("so many", x.count(7), i + 1);
        }
        says("The PILE is SEEN: its number; NONE, and nothing happens: 6 are there.");
        due("a 7th", x.see(true), -1);
        due("a 7th", x.see(false), -1);
        due("six", x.count(7), 6);
        due("the first one STOOD", x.fits(3, 1), 6);
        due("the second one FELL", x.fits(3, 2), 0);
        due("no 7th", x.fits(3, 7), -1);
        due("no thing done", x.count(6), 0);
        due("the last one is the one SEEN then", x.forget(), 6);
        due("room again", x.see(true), 0);
    }

    private static void forgets() {
        says("All that was SEEN is forgotten: how many there were.");
        EdgePile x = told(EVEN);
        due("none", x.forget(), 0);
        x.see(true);
        due("one", x.forget(), 1);
        due("none now", x.count(7), 0);
        due("none now", x.forget(), 0);
        due("none KNOWN", x.fits(3, 1), -1);
        for (int i = 0; i < 6; i++) x.see(true);
        due("six", x.forget(), 6);
        due("from 0 on", x.see(false), 0);
        due("only what was SEEN since", x.fits(3, 1), 3);
        due("nothing told", new EdgePile().forget(), 0);
    }

    private static void seenAsItIsNow() {
        says("SEEN: the PILE as it is now (BOOKS, PLACES, glue), STOOD or FELL");
        EdgePile x = told(EVEN);
        x.see(true);
        x.move(1, 9);
        due("PLACES of then", x.fits(3, 1), 6);
        x.lift();
        x.lift();
        due("BOOKS of then", x.fits(3, 1), 6);
        x.lay(0, -3, false);
        x.lay(1, -1, true);
        due("glue of then", x.fits(3, 1), 6);
        x.see(true);
        // Glued: level 0 alone is asked, whose POINT is at most 0 if b weighs no more than a.
        due("glue of now", x.fits(3, 2), 6);
        x.move(1, -1);
        x.see(false);
        due("glued, it stands with all", x.fits(3, 3), 0);
    }

    private static void knownByK() {
        says("KNOWN by k: the first k.");
        EdgePile x = told(EVEN);
        x.see(true);
        x.see(true);
        x.see(false);
        due("0", x.fits(3, 0), 9);
        due("1", x.fits(3, 1), 6);
        due("2", x.fits(3, 2), 6);
        due("3", x.fits(3, 3), 0);
        due("4", x.fits(3, 4), -1);
        due("span by 0", x.span(3, 0, 0), 13);
        due("span by 3", x.span(3, 3, 0), -2);
    }

    private static void weightsToMost() {
        says("WEIGHTS from 1 to a most (1 .. 6) for each BOOK");
        EdgePile x = told(EVEN);
        x.see(true);
        int[] even = {1, 3, 6, 10, 15, 21};
        for (int most = 1; most <= 6; most++) {
            due("most " + most, x.fits(most, 1), even[most - 1]);
            due("most " + most + ", all", x.fits(most, 0), most * most);
        }
        due("all of six", told(SIX).fits(6, 0), 46656);
        due("one of six", told(SIX).fits(1, 0), 1);
    }

    private static void heavyNotAsked() {
        says("its HEAVY not asked");
        EdgePile x = told("book a 4 1;book b 4 9;heavy a=99;heavy b=1/0;table 9;pile a at -3 b at -1;");
        x.see(true);
        due("by the row alone", x.fits(3, 1), 6);
        EdgePile y = told("book a 4 20;book b 4 1;table 9;pile a at -3 b at -1;");
        y.see(false);
        due("nor its WEIGHT", y.fits(3, 1), 3);
    }

    private static void fliesAsTold() {
        says("FLIES as told");
        EdgePile x = told(EVEN + "fly 1 on a 4;");
        x.see(true);
        due("b less than a", x.fits(3, 1), 3);
        EdgePile off = told(EVEN + "book c 1 1;fly 99 on c 1;");
        off.see(true);
        due("none of one that is not there", off.fits(1, 1), 1);
        EdgePile heavy = told("book a 10 1;fly 99 on a 6;pile a at -5;");
        heavy.see(false);
        due("one that cannot be held", heavy.fits(6, 1), 6);
    }

    private static void justIfItStood() {
        says("FIT if each PILE that is KNOWN would stand just if it STOOD");
        EdgePile x = told(EVEN);
        x.see(false);
        due("b more than a", x.fits(3, 1), 3);
        due("b more than a, 1", x.fits(1, 1), 0);
        x.move(1, -1);
        x.see(true);
        due("farther left it stands with all", x.fits(3, 2), 3);
        x.move(0, 1);
        x.move(1, -1);
        // The middles of both are 0 now.
        x.see(true);
        due("at the edge", x.fits(3, 3), 3);
        x.move(0, 1);
        x.see(true);
        due("beyond it", x.fits(3, 4), 0);
    }

    private static void ends() {
        says("FIT if each PILE that is KNOWN would stand just if it STOOD");
        int[] places = {-56, -55, -5, -4};
        for (int place : places) {
            EdgePile x = told("book a 10 1;table 50;pile a at " + place + ";");
            x.see(true);
            x.see(false);
            boolean stands = place == -55 || place == -5;
            due("STOOD at " + place, x.fits(1, 1), stands ? 1 : 0);
            x.forget();
            x.see(false);
            due("FELL at " + place, x.fits(1, 1), stands ? 0 : 1);
        }
        // What is glued on top draws the POINT to where the ends touch: it LIES at 0, not at 1.
        EdgePile touch = told("book a 10 1;book b 10 1;pile a at 0 b at -10 glued;");
        touch.see(true);
        due("touching", touch.fits(1, 1), 1);
        EdgePile apart = told("book a 10 1;book b 10 1;pile a at 1 b at -11 glued;");
        apart.see(true);
        due("not touching", apart.fits(6, 1), 0);
    }

    private static void withoutBooks() {
        says("how many rows (one number for each BOOK)");
        EdgePile x = new EdgePile();
        due("no BOOKS: one row", x.fits(6, 0), 1);
        x.see(true);
        due("it stands", x.fits(6, 1), 1);
        x.see(false);
        due("it did not fall", x.fits(6, 2), 0);
        EdgePile y = told(SIX);
        y.see(true);
        due("none in the PILE", y.fits(2, 1), 64);
        y.see(false);
        due("it did not fall", y.fits(2, 2), 0);
    }

    private static void everyBook() {
        says("how many rows (one number for each BOOK)");
        EdgePile x = told("book c 9 1;" + EVEN.replace("table", "book d 9 1;table"));
        x.see(true);
        due("c and d any", x.fits(3, 1), 54);
        due("c", x.span(3, 1, 0), 13);
        due("d", x.span(3, 1, 3), 13);
        EdgePile six = told(SIX + "pile a at -9 b at -9 c at -9 d at -9 e at -9 f at -9;");
        six.see(true);
        due("six levels, all rows", six.fits(6, 1), 46656);
        six.forget();
        six.see(false);
        due("six levels, no row", six.fits(6, 1), 0);
    }

    private static void fitsAsks() {
        says("How many rows FIT, as KNOWN by k; NONE: no such ones.");
        EdgePile x = told(EVEN);
        x.see(true);
        for (int most : new int[] {0, 7, -1, LEAST, MOST}) {
            due("most " + most, x.fits(most, 1), -1);
            due("most " + most, x.fits(most, 0), -1);
        }
        for (int k : new int[] {-1, 2, 6, 7, LEAST, MOST}) due("k " + k, x.fits(3, k), -1);
        due("most 1", x.fits(1, 1), 1);
        due("most 6", x.fits(6, 1), 21);
        for (int i = 0; i < 5; i++) x.see(true);
        due("k 6", x.fits(3, 6), 6);
        due("k 7", x.fits(3, 7), -1);
        due("nothing happens", x.count(7), 6);
    }

    private static void spans() {
        says("SPAN of a BOOK: 10 * the least + the greatest; -2: none FIT; NONE: no such ones.");
        EdgePile x = told(EVEN);
        x.see(false);
        due("a", x.span(3, 1, 0), 12);
        due("b", x.span(3, 1, 1), 23);
        due("a of 6", x.span(6, 1, 0), 15);
        due("b of 6", x.span(6, 1, 1), 26);
        due("one row: a", x.span(2, 1, 0), 11);
        due("one row: b", x.span(2, 1, 1), 22);
        due("none FIT", x.span(1, 1, 0), -2);
        due("none FIT", x.span(1, 1, 1), -2);
        due("none KNOWN", x.span(6, 0, 0), 16);
        due("none KNOWN, most 1", x.span(1, 0, 0), 11);
        EdgePile fly = told("book a 4 1;book b 4 1;fly 4 on a 4;table 9;pile a at -3 b at -1;");
        fly.see(true);
        due("5 at least", fly.span(6, 1, 0), 56);
        due("2 at most", fly.span(6, 1, 1), 12);
        due("one row of 5", fly.fits(5, 1), 1);
        due("none of 4", fly.span(4, 1, 1), -2);
    }

    private static void spanAsks() {
        says("SPAN of a BOOK: the least and the greatest in them.");
        EdgePile x = told(EVEN);
        x.see(false);
        for (int most : new int[] {0, 7, -1, LEAST, MOST}) due("most " + most, x.span(most, 1, 0), -1);
        for (int k : new int[] {-1, 2, 6, LEAST, MOST}) due("k " + k, x.span(3, k, 0), -1);
        for (int book : new int[] {-1, 2, 6, LEAST, MOST}) {
            due("book " + book, x.span(3, 1, book), -1);
            due("book " + book + ", none FIT", x.span(1, 1, book), -1);
        }
        due("no BOOKS", new EdgePile().span(1, 0, 0), -1);
        due("the last BOOK", told(SIX).span(4, 0, 5), 14);
        due("no more", told(SIX).span(4, 0, 6), -1);
    }

    private static void seenStays() {
        says("SEEN: the PILE as it is now");
        EdgePile x = told(EVEN);
        x.see(true);
        x.move(0, 5);
        yes("undo", x.undo());
        yes("hold", x.hold(0));
        yes("restore", x.restore(0));
        x.pushed(0);
        x.takings();
        x.slides(0, true);
        due("SEEN still", x.count(7), 1);
        due("the same", x.fits(3, 1), 6);
        due("a FAULT", Texts.read(x, "#"), 1);
        due("SEEN still", x.fits(3, 1), 6);
        due("no FAULT", Texts.read(x, EVEN), 0);
        due("SEEN no more", x.count(7), 0);
    }
}
