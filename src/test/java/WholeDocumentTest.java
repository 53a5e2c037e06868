import java.util.ArrayList;
import java.util.List;

/**
 * The document once more from its first line: the rules of its grammar one by one, and the sentences of its terms and
 * promises that the tests of the boundaries do not quote. Answers are reckoned by hand.
 */
public final class WholeDocumentTest extends Checks {
    private static final String TWO = "book a 20 20;book b 4 1;";
    // b lies on what of a hangs out over the edge.
    private static final String HANGING = TWO + "pile a at -15 b at 1;";

    public static void main(String[] args) {
        uses512Calls();
        tells();
        places();
        expressions();
        units();
        liesOnWhatIsBelow();
        tipsIfItLies();
        takingsOneByOne();
        slidesIfItStands();
        outOfALevel();
        reachOfThePoints();
        reachByWeightsAlone();
        tapeCalls();
        bookCalls();
        pointAndTips();
        overAndHolds();
        slidesAndReach();
        counts();
        finish();
    }

    private static void uses512Calls() {
        says("An object is used for at most 512 calls after it has been made");
        EdgePile x = told(HANGING);
        // Three feeds, a back and a read were 5 calls.
        for (int calls = 5; calls < 509; calls += 2) {
            boolean away = calls % 4 == 1;
            yes("move", x.move(1, away ? -1 : 1));
            due("PLACE", x.book(1, 4), away ? 0 : 1);
        }
        due("the 510th call", x.count(6), 50);
        yes("the 511th call", x.undo());
        due("the 512th call", x.book(1, 4), 0);
    }

    private static void tells() {
        says("text: {TELL}.");
        fine("");
        fine("table 1;pile;table 2;");
        fault(1, "table 1;^;");
        says("TELL: 'book' NAME INT INT ';'");
        fine("book a 1 1;");
        fault(1, "book ^1 1 1;");
        fault(1, "book a ^;");
        fault(1, "book a 1 ^;");
        fault(1, "book a 1 1 ^1;");
        says("'heavy' NAME '=' {'if' E '<' E 'then' E 'else'} E ';'");
        fine("book a 1 1;heavy a=1;");
        fine("book a 1 1;heavy a=if 1<2 then 3 else if 4<5 then 6 else 7;");
        fault(1, "book a 1 1;heavy ^=1;");
        fault(1, "book a 1 1;heavy a ^1;");
        fault(1, "book a 1 1;heavy a=^;");
        fault(1, "book a 1 1;heavy a=if 1 ^then 2 else 3;");
        fault(1, "book a 1 1;heavy a=if 1<2 ^3 else 4;");
        fault(1, "book a 1 1;heavy a=if 1<2 then 3^;");
        fault(1, "book a 1 1;heavy a=if 1<2 then ^if 3<4 then 5 else 6 else 7;");
        fault(1, "book a 1 1;heavy a=if 1<2^<3 then 4 else 5;");
        fault(1, "book a 1 1;heavy a=(^if 1<2 then 3 else 4);");
        says("'table' INT ';'");
        fault(1, "table ^;");
        fault(1, "table ^- 5;");
        says("'pile' {NAME 'at' PLACE ['glued']} ';'");
        fine("pile;");
        fine("book a 1 1;book b 1 1;pile a at 1 glued b at - 2;");
        fault(1, "book a 1 1;pile a ^1;");
        fault(1, "book a 1 1;pile a at ^glued;");
        fault(1, "book a 1 1;pile a at 1 glued ^glued;");
        fault(1, "book a 1 1;pile ^at 1;");
        says("'fly' INT 'on' NAME INT ';'.");
        fine("book a 1 1;fly 1 on a 1;");
        fault(1, "book a 1 1;fly ^on a 1;");
        fault(1, "book a 1 1;fly 1 ^a 1;");
        fault(1, "book a 1 1;fly 1 on ^1;");
        fault(1, "book a 1 1;fly 1 on a^;");
    }

    private static void places() {
        says("PLACE: ['-'] INT.");
        due("5", told("book a 9 9;pile a at 5;").book(0, 4), 5);
        due("-5", told("book a 9 9;pile a at-5;").book(0, 4), -5);
        due("- 5", told("book a 9 9;pile a at - 5;").book(0, 4), -5);
        fault(1, "book a 9 9;pile a at -^-5;");
        fault(1, "book a 9 9;pile a at ^+5;");
    }

    private static void weighs(String law, int want) {
        due(law, told("book a 30 7;book b 8 1;heavy a=" + law + ";pile b at -8 a at -9;").book(0, 2), want);
    }

    private static void expressions() {
        says("E: PART {('+' | '-') PART}.");
        weighs("20-7-4", 9);
        weighs("20-7+4", 17);
        weighs("2+3*4", 14);
        weighs("50-3*4-2*5", 28);
        says("PART: UNIT {('*' | '/') UNIT}.");
        weighs("20/3*3", 18);
        weighs("60/5/4", 3);
        weighs("2*9/4", 4);
        fault(1, "book a 1 1;heavy a=1+^;");
        fault(1, "book a 1 1;heavy a=1*^+1;");
    }

    private static void units() {
        says("UNIT: INT | VAR | '(' E ')'.");
        weighs("(2+3)*4", 20);
        weighs("20-(7-4)", 17);
        weighs("60/(20/4)", 12);
        fault(1, "book a 1 1;heavy a=^-1;");
        fault(1, "book a 1 1;heavy a=(^);");
        fault(1, "book a 1 1;heavy a=(1^;");
        fault(1, "book a 1 1;heavy a=1^);");
        fault(1, "book a 1 1;heavy a=^a;");
        says("VAR: 'long' | 'told' | 'level' | 'place' | 'above'.");
        weighs("long", 30);
        weighs("told", 7);
        weighs("level+40", 41);
        weighs("place+40", 31);
        weighs("above+40", 40);
    }

    private static void liesOnWhatIsBelow() {
        says("A level LIES on what is below: the TABLE, or the BOOK of the level below:");
        yes("beyond the edge, but on a", told(HANGING).stands());
        EdgePile x = told(TWO + "pile a at -20 b at -30;");
        no("above the TABLE, but not on a", x.stands());
        due("level", x.tips(0), 1);
        due("to the left", x.tips(1), 0);
        x = told("book a 20 20;book b 4 20;book c 20 1;pile a at -20 b at -4 c at -20;");
        due("on a too, but b is what is below", x.tips(0), 2);
    }

    private static void tipsIfItLies() {
        says("It TIPS at the lowest level that does not stand: if that does LIE on what is below, to the right if its POINT is beyond the lesser right end, else to the left");
        due("to the right", told("book a 10 1;pile a at -4;").tips(1), 1);
        due("at the edge", told("book a 10 1;pile a at -5;").tips(1), -2);
        due("at the far end", told("book a 10 1;pile a at -105;").tips(1), -2);
        due("to the left", told("book a 10 1;pile a at -106;").tips(1), 0);
    }

    private static void takingsOneByOne() {
        says("TAKINGS: how many orders there are in which all BOOKS are taken out one by one, others not moved,");
        due("each by itself", told("book a 8 1;book b 8 1;book c 8 1;pile a at -8 b at -8 c at -8;").takings(), 6);
        due("b would hang in the air", told(HANGING).takings(), 1);
    }

    private static void slidesIfItStands() {
        says("by all numbers between 0 and it, too (if it STANDS now).");
        EdgePile x = told(HANGING);
        due("least", x.slides(1, false), -18);
        due("greatest", x.slides(1, true), 2);
        yes("move", x.move(1, 3));
        due("fallen", x.slides(1, false), -2000);
        due("fallen", x.slides(0, true), -2000);
        yes("undo", x.undo());
        due("as it was", x.slides(1, true), 2);
    }

    private static void outOfALevel() {
        says("OUT: whether the PILE would stand if the BOOK of a level were taken out,");
        EdgePile x = told(HANGING);
        due("a", x.out(0), 0);
        due("b", x.out(1), 1);
        due("nothing happened", x.count(1), 2);
    }

    /** Built from the topmost down, its right end at 0: where level 0's POINT is then, the edge must be. */
    private static void reachOfThePoints() {
        says("how far the topmost's right end is beyond the edge if each LOAD's POINT is just above the right end of the BOOK below it, that of level 0 above the edge:");
        int[] lengths = {99, 20, 7, 34};
        int[] weights = {3, 20, 11, 1};
        EdgePile x = told("book a 99 3;book b 20 20;book c 7 11;book d 34 1;");
        for (int[] order : orders(new ArrayList<>(), 4)) {
            PlainPile.Fraction point = PlainPile.Fraction.of(0, 1);
            int load = 0;
            int number = 0;
            for (int i = order.length - 1; i >= 0; i--) {
                int book = order[i];
                // The BOOK's right end is at the POINT of what lies on it.
                PlainPile.Fraction back = PlainPile.Fraction.of(-(long) weights[book] * lengths[book],
                    2L * (load + weights[book]));
                point = point.plus(back);
                load += weights[book];
            }
            for (int book : order) number = number * 10 + book + 1;
            due("above of " + number, x.reach(number, false), -point.part(false));
            due("below of " + number, x.reach(number, true), point.part(true));
        }
    }

    private static List<int[]> orders(List<Integer> ahead, int books) {
        List<int[]> all = new ArrayList<>();
        if (!ahead.isEmpty()) all.add(ahead.stream().mapToInt(n -> n).toArray());
        for (int book = 0; book < books; book++) {
            if (ahead.contains(book)) continue;
            List<Integer> more = new ArrayList<>(ahead);
            more.add(book);
            all.addAll(orders(more, books));
        }
        return all;
    }

    private static void reachByWeightsAlone() {
        says("REACH of an order of BOOKS (from the lowest up, by their WEIGHTS, no FLIES, no glue)");
        String books = "book a 12 2;book b 10 1;";
        String more = "heavy a=99;heavy b=50;fly 9 on a 12;fly 7 on b 0;pile b at -9 a at -9 glued;";
        for (String text : new String[] {books, books + more}) {
            EdgePile x = told(text);
            // 10 / 2, and below it 2 * 12 / (2 * 3).
            due("a below b", x.reach(12, false), 9);
            due("a below b", x.reach(12, true), 1);
            // 12 / 2, and below it 10 / (2 * 3).
            due("b below a", x.reach(21, false), 23);
            due("b below a", x.reach(21, true), 3);
            due("best", x.bestOrder(3), 12);
        }
    }

    private static void tapeCalls() {
        says("The last n bytes of the tape go: how many it has.");
        EdgePile x = new EdgePile();
        due("feed", x.feed(0x7461626c, 0x65203130, 0x3b202020, 0x20202020, 0x20202020), 20);
        due("back", x.back(9), 11);
        due("back 0", x.back(0), 11);
        due("back again", x.back(3), 8);
        due("read without its end", x.read(), 1);
        due("place", x.place(), 8);
    }

    private static void bookCalls() {
        says("Of a BOOK: what 0 LONG, 1 WEIGHT, 2 WEIGHS now, 3 its level");
        EdgePile x = told("book a 20 3;book b 4 1;heavy b=above+5;pile a at -15 b at 1 glued;");
        int[] want = {4, 1, 5, 1, 1, 1};
        for (int what = 0; what < 6; what++) due("book b " + what, x.book(1, what), want[what]);
        due("lift", x.lift(), 1);
        want = new int[] {4, 1, 1, -2, -1000, 0};
        for (int what = 0; what < 6; what++) due("b is off, " + what, x.book(1, what), want[what]);
        want = new int[] {20, 3, 3, 0, -15, 0};
        for (int what = 0; what < 6; what++) due("book a " + what, x.book(0, what), want[what]);
    }

    private static void pointAndTips() {
        says("Its POINT: above (or below) the line, a fraction that cannot be lessened");
        EdgePile x = told(HANGING);
        // (20 * -5 + 1 * 3) / 21.
        due("above", x.point(0, false), -97);
        due("below", x.point(0, true), 21);
        due("above of b", x.point(1, false), 3);
        due("below of b", x.point(1, true), 1);
        says("TIPS: what 0 the level, 1: 1 to the right, 0 to the left;");
        yes("move", x.move(1, 3));
        due("level", x.tips(0), 1);
        due("right", x.tips(1), 1);
        yes("move", x.move(0, -999 + 15));
        due("level", x.tips(0), 0);
        due("left", x.tips(1), 0);
    }

    private static void overAndHolds() {
        says("`int over()`: OVER.");
        due("both as far", told(HANGING).over(), 5);
        says("`int holds(int book, int at)`: HOLDS likewise.");
        // a alone falls to the left of the TABLE.
        EdgePile x = told("book a 20 18;table 7;pile a at -20;");
        due("POINT", x.point(0, false), -10);
        // (18 * -10 + 0 * n) / (18 + n) must not be below -7.
        due("least", x.holds(0, 20), 8);
        due("heaviest", x.bears(0, 20), 9999);
        due("beyond its end", x.holds(0, 21), -1);
        due("nowhere left of the TABLE", x.holds(0, 0), -2);
    }

    private static void slidesAndReach() {
        says("`int takings()`: TAKINGS.");
        due("none told", new EdgePile().takings(), 1);
        says("SLIDES: the least (most: the greatest) number; -2000: it does not stand now; -1000: no such level.");
        EdgePile x = told("book a 10 1;pile a at -20;");
        due("least", x.slides(0, false), -85);
        due("greatest", x.slides(0, true), 15);
        due("no level", x.slides(1, true), -1000);
        says("REACH of an order: six BOOKS or fewer as digits 1 .. 6 of a number (BOOK 0 is 1)");
        due("above", x.reach(1, false), 5);
        due("below", x.reach(1, true), 1);
        due("no such BOOK", x.reach(2, true), -1);
    }

    private static void counts() {
        says("0 BOOKS, 1 levels, 2 how wide the TABLE is, 3 FLIES, 4 FLIES that sit in the PILE, 5 bytes on the tape, 6 things that can be undone, 7 SEEN ones, 8 SLOTS that hold something.");
        EdgePile x = told("book a 9 1;book b 9 1;book c 9 1;table 77;fly 1 on a 1;fly 2 on b 2;fly 3 on c 3;"
            + "fly 0 on c 4;pile c at -9;");
        x.lay(1, -9, false);
        x.move(0, 1);
        x.move(1, 1);
        x.feed(0, 0, 0, 0, 0);
        x.back(5);
        x.see(true);
        x.hold(2);
        x.hold(2);
        x.see(false);
        int[] want = {3, 2, 77, 4, 3, 15, 3, 2, 1};
        for (int what = 0; what < want.length; what++) due("count " + what, x.count(what), want[what]);
    }
}
