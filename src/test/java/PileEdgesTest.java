/** The boundary cases of the document's part II and of promises 6 to 16 and 31 to 33, sentence by sentence. */
public final class PileEdgesTest extends Checks {
    private static final int LEAST = Integer.MIN_VALUE;
    private static final int MOST = Integer.MAX_VALUE;
    private static final String THREE = "book a 10 1;book b 10 1;book c 10 1;table 50;";
    private static final String SIX = "book a 9 1;book b 9 2;book c 9 3;book d 9 4;book e 9 5;book f 9 6;";

    public static void main(String[] args) {
        weighsHeld();
        weighsInNoPile();
        lawsChoose();
        lawsWrap();
        lawsRound();
        lawsDivideByNothing();
        lawsVars();
        loads();
        points();
        liesWhereEndsTouch();
        liesBetweenOwnEnds();
        standsAtBothEnds();
        standsGlued();
        tipsAtTheLowest();
        tipsWithoutLying();
        overTheEdge();
        allLevelsStand();
        withoutBooks();
        bookAsks();
        bookOutOfThePile();
        levels();
        loadAsks();
        pointAsks();
        tipsAsks();
        lays();
        laysRefused();
        lifts();
        moves();
        movesRefused();
        undoes();
        undoesFifty();
        undoesAll();
        holds();
        restores();
        restoresRefused();
        counts();
        finish();
    }

    private static void law(String law, int weighs) {
        due("law " + law, told("book a 10 7;heavy a=" + law + ";pile a at -3;").book(0, 2), weighs);
    }

    private static void weighsHeld() {
        says("WEIGHS: what HEAVY of a BOOK in the PILE tells, held to 1 .. 99");
        law("0-9999*9999", 1);
        law("0-1", 1);
        law("0", 1);
        law("1", 1);
        law("2", 2);
        law("98", 98);
        law("99", 99);
        law("100", 99);
        law("9999*9999", 99);
        EdgePile x = told("book a 10 7;heavy a=place;pile a at 0;");
        due("LOAD of 0", x.load(0), 1);
        x.move(0, 99);
        due("LOAD of 99", x.load(0), 99);
        x.move(0, 1);
        due("LOAD of 100", x.load(0), 99);
    }

    private static void weighsInNoPile() {
        says("(in no PILE: its WEIGHT)");
        EdgePile x = told("book a 10 7;book b 10 20;heavy a=50;heavy b=0;");
        due("a", x.book(0, 2), 7);
        due("b", x.book(1, 2), 20);
        x.lay(0, 0, false);
        due("a in the PILE", x.book(0, 2), 50);
        due("b not yet", x.book(1, 2), 20);
        x.lift();
        due("a off again", x.book(0, 2), 7);
        x.undo();
        due("a there again", x.book(0, 2), 50);
    }

    private static void lawsChoose() {
        says("LAWS: the E of the first if that holds (one less than the other), else the last one");
        law("if 1<2 then 5 else 6", 5);
        law("if 2<2 then 5 else 6", 6);
        law("if 3<2 then 5 else 6", 6);
        law("if 0-1<0 then 5 else 6", 5);
        law("if 1<2 then 5 else if 1<2 then 6 else 7", 5);
        law("if 2<2 then 5 else if 1<2 then 6 else 7", 6);
        law("if 2<2 then 5 else if 2<2 then 6 else 7", 7);
        law("if 1<1 then 2 else if 1<1 then 3 else if 1<1 then 4 else if 0<1 then 5 else 6", 5);
        law("if 1<1 then 2 else if 1<1 then 3 else if 1<1 then 4 else if 1<1 then 5 else 6", 6);
    }

    private static void lawsWrap() {
        says("ints of 32 bits that wrap");
        String top = "8192*8192*32-1";
        law("if " + top + "<0 then 5 else 6", 6);
        law("if " + top + "+1<0 then 5 else 6", 5);
        law("if 8192*8192*32<0 then 5 else 6", 5);
        law("if 0<8192*8192*32-1 then 5 else 6", 5);
        law("if 8192*8192*32-1<" + top + " then 5 else 6", 6);
        law("8192*8192*64+5", 5);
        law("8192*8192*64*9999+8", 8);
        law("(8192*8192*32)/(0-1)", 1);
        law("if 8192*8192*32/(0-1)<0 then 5 else 6", 5);
        // 4299140043 is 4172747 of 32 bits.
        law("9999*9999*43/50/1000", 83);
    }

    private static void lawsRound() {
        says("/ rounded towards 0");
        law("7/2", 3);
        law("(0-7)/2+10", 7);
        law("7/(0-2)+10", 7);
        law("(0-7)/(0-2)", 3);
        law("(0-1)/2+10", 10);
        law("100/7/2*3", 21);
        law("7/1", 7);
        law("7/(0-1)+10", 3);
        law("7/7", 1);
        law("7/8+5", 5);
        law("2*7/4", 3);
    }

    private static void lawsDivideByNothing() {
        says("a law in which something that is looked at is divided by 0 is 0.");
        law("5/0", 1);
        law("0/0", 1);
        law("50+5/0", 1);
        law("50+0*(5/(2-2))", 1);
        law("50+5/0*0", 1);
        law("50+5/(1/2)", 1);
        law("if 5/0<9 then 5 else 6", 1);
        law("if 0<9/0 then 5 else 6", 1);
        law("if 0<9 then 5/0 else 6", 1);
        law("if 9<9 then 5 else 6/0", 1);
        law("if 9<9 then 5 else if 1/0<2 then 6 else 7", 1);
        law("if 0<9 then 5 else 6/0", 5);
        law("if 9<9 then 5/0 else 6", 6);
        law("if 0<9 then 5 else if 1/0<2 then 6/0 else 7/0", 5);
        law("0/5+9", 9);
    }

    private static void lawsVars() {
        says("long; told: its WEIGHT; level; place; above: how many BOOKS lie above it.");
        String laws = "";
        for (String name : "a b c d e f".split(" ")) laws += "heavy " + name + "=level*10+above;";
        EdgePile x = told(SIX + laws + "pile a at 0 b at 0 c at 0 d at 0 e at 0 f at 0;");
        for (int i = 0; i < 6; i++) due("level " + i, x.book(i, 2), Math.max(1, 10 * i + 5 - i));
        x.lift();
        for (int i = 0; i < 5; i++) due("five: level " + i, x.book(i, 2), 10 * i + 4 - i);
        law("long", 10);
        law("told", 7);
        law("place+4", 1);
        law("place+5", 2);
        law("0-place", 3);
        due("LONG 99", told("book a 99 20;heavy a=long;pile a at 0;").book(0, 2), 99);
        due("PLACE 999", told("book a 99 20;heavy a=place-950;pile a at 999;").book(0, 2), 49);
        due("PLACE -999", told("book a 99 20;heavy a=place+1010;pile a at -999;").book(0, 2), 11);
    }

    private static void loads() {
        says("LOAD of a level: all that WEIGHS on that level and above, FLIES too");
        EdgePile x = told(THREE + "fly 2 on a 0;fly 0 on a 0;fly 4 on b 0;fly 99 on c 0;pile a at -9 b at -9;");
        due("level 1", x.load(1), 5);
        due("level 0", x.load(0), 8);
        x.lay(2, -9, false);
        due("level 2", x.load(2), 100);
        due("level 1", x.load(1), 105);
        due("level 0", x.load(0), 108);
        String heavy = "";
        String pile = "pile";
        for (String name : "a b c d e f".split(" ")) {
            heavy += "heavy " + name + "=99;fly 99 on " + name + " 9;";
            pile += " " + name + " at 999";
        }
        EdgePile most = told(SIX + heavy + pile + ";");
        due("the greatest", most.load(0), 1188);
        due("the greatest POINT", most.point(0, false), 4023);
        due("by 4", most.point(0, true), 4);
    }

    private static void points() {
        says("its POINT: where it all is on the mean (each BOOK in its middle, each FLY where it sits).");
        point("book a 10 1;pile a at -5;", 0, 1);
        point("book a 9 1;pile a at -5;", -1, 2);
        point("book a 9 1;pile a at -4;", 1, 2);
        point("book a 1 20;pile a at 0;", 1, 2);
        point("book a 10 2;fly 1 on a 0;pile a at -6;", -8, 3);
        point("book a 10 2;fly 1 on a 10;pile a at -6;", 2, 3);
        point("book a 10 2;fly 0 on a 10;pile a at -6;", -1, 1);
        point("book a 10 2;fly 2 on a 4;pile a at -6;", -3, 2);
        point("book a 99 1;pile a at -999;", -1899, 2);
    }

    private static void point(String text, int above, int below) {
        EdgePile x = told(text);
        due("above of " + text, x.point(0, false), above);
        due("below of " + text, x.point(0, true), below);
    }

    private static void tip(String pile, int level, int side) {
        EdgePile x = told(THREE + "pile " + pile + ";");
        due("stands " + pile, x.stands() ? 1 : 0, level == -2 ? 1 : 0);
        due("level " + pile, x.tips(0), level);
        due("side " + pile, x.tips(1), side);
    }

    /** What is glued on top draws the POINT just to where the ends touch. */
    private static void liesWhereEndsTouch() {
        says("It does LIE there if the one is no greater than the other");
        tip("a at -10 b at 0 c at -10 glued", -2, -2);
        tip("a at -10 b at 1 c at -11 glued", 1, 1);
        tip("a at -10 b at -20 c at -10 glued", -2, -2);
        tip("a at -10 b at -21 c at -9 glued", 1, 0);
        tip("a at 0 b at -10 glued", -2, -2);
        tip("a at 1 b at -11 glued", 0, 1);
        tip("a at -60 b at -50 glued", -2, -2);
        tip("a at -61 b at -49 glued", 0, 0);
    }

    /** A short b on a long a: not a's ends count but b's. */
    private static void liesBetweenOwnEnds() {
        says("from the greater of both left ends to the lesser of both right ends.");
        String[] places = {"-11", "-10", "-19", "-20"};
        int[] levels = {-2, 1, -2, 1};
        int[] sides = {-2, 1, -2, 0};
        for (int i = 0; i < places.length; i++) {
            EdgePile x = told("book a 20 1;book b 4 1;book c 10 1;pile a at -20 b at -12 c at " + places[i] + " glued;");
            due("level, c at " + places[i], x.tips(0), levels[i]);
            due("side, c at " + places[i], x.tips(1), sides[i]);
        }
        // A TABLE narrower than the BOOK: from -2 to 0; and a BOOK on it that is shorter than the TABLE is wide.
        yes("-2", told("book a 10 1;table 2;pile a at -7;").stands());
        no("ahead of -2", told("book a 10 1;table 2;pile a at -8;").stands());
        yes("0", told("book a 10 1;table 2;pile a at -5;").stands());
        no("beyond 0", told("book a 10 1;table 2;pile a at -4;").stands());
        yes("at its own end", told(THREE + "pile a at -20 b at -10 glued c at -15 glued;").stands());
        no("beyond its own end", told(THREE + "pile a at -20 b at -10 glued c at -14 glued;").stands());
        yes("at its own left end", told(THREE + "pile a at -20 b at -30 glued c at -25 glued;").stands());
        no("ahead of it", told(THREE + "pile a at -20 b at -30 glued c at -26 glued;").stands());
    }

    private static void standsAtBothEnds() {
        says("it STANDS if it does and its POINT is neither ahead of the one nor beyond the other");
        tip("a at -5", -2, -2);
        tip("a at -4", 0, 1);
        tip("a at -55", -2, -2);
        tip("a at -56", 0, 0);
        tip("a at -30 b at -25", -2, -2);
        tip("a at -30 b at -24", 1, 1);
        tip("a at -30 b at -35", -2, -2);
        tip("a at -30 b at -36", 1, 0);
        int[] right = {4, 5, 6};
        for (int at : right) {
            EdgePile x = told("book a 10 1;heavy a=99;fly 1 on a " + at + ";pile a at -5;");
            due("a hundredth, edge, " + at, x.tips(1), at > 5 ? 1 : -2);
            EdgePile y = told("book a 10 1;heavy a=99;table 50;fly 1 on a " + at + ";pile a at -55;");
            due("a hundredth, left end, " + at, y.tips(1), at < 5 ? 0 : -2);
            EdgePile z = told("book a 40 1;book b 10 1;heavy b=99;fly 1 on b " + at + ";pile a at -40 b at -5;");
            due("a hundredth, above a's right end, " + at, z.tips(0), at > 5 ? 1 : -2);
        }
        yes("half a one ahead of the edge", told("book a 9 1;pile a at -5;").stands());
        no("half a one beyond it", told("book a 9 1;pile a at -4;").stands());
    }

    private static void standsGlued() {
        says("or (whatever its place) if it is glued to a BOOK below (level 0 never is).");
        String far = "book a 99 1;book b 1 1;heavy a=99;table 999;pile a at -999 b at 999";
        yes("as far as can be", told(far + " glued;").stands());
        no("not glued", told(far + ";").stands());
        due("it is b", told(far + ";").tips(0), 1);
        String left = "book a 99 1;book b 1 1;heavy a=99;pile a at -99 b at -999";
        yes("as far to the left", told(left + " glued;").stands());
        no("not glued", told(left + ";").stands());
        tip("a at -4 glued", 0, 1);
        tip("a at 5 glued", 0, 1);
        tip("a at -56 glued", 0, 0);
        tip("a at -4 glued b at -10", 1, 0);
        EdgePile x = told(THREE);
        x.lay(0, -4, true);
        no("laid as glued, on level 0", x.stands());
        x.move(0, -1);
        yes("where it stands without", x.stands());
        tip("a at -10 b at 0 glued", -2, -2);
        tip("a at -10 b at 0", 1, 1);
        tip("a at -10 b at 1 glued", 0, 1);
        tip("a at -20 b at -20 glued c at -15", -2, -2);
        tip("a at -20 b at -20 glued c at -14", 2, 1);
        tip("a at -10 b at -6 c at 40 glued", 0, 1);
    }

    private static void tipsAtTheLowest() {
        says("It TIPS at the lowest level that does not stand");
        tip("a at -30 b at -24 c at -10", 0, 1);
        tip("a at -30 b at -24 c at -40", 1, 0);
        tip("a at -30 b at -30 c at -24", 2, 1);
        tip("a at -30 b at -30 c at -36", 2, 0);
        tip("a at 5 b at 30 c at 60", 0, 1);
        tip("a at -10 b at 9 glued c at -30", 2, 0);
        says("to the right if its POINT is beyond the lesser right end, else to the left");
        tip("a at -4", 0, 1);
        tip("a at -56", 0, 0);
        tip("a at 0", 0, 1);
        tip("a at -60", 0, 0);
        tip("a at -30 b at -20", 1, 1);
        tip("a at -30 b at -40", 1, 0);
    }

    /** What is glued on top draws the POINT to the other side: the left end alone counts. */
    private static void tipsWithoutLying() {
        says("if it does not, to the right if its left end is beyond the right end below, else to the left.");
        tip("a at 1", 0, 1);
        tip("a at -61", 0, 0);
        tip("a at 1 b at -40 glued", 0, 1);
        tip("a at -61 b at 20 glued", 0, 0);
        tip("a at -10 b at 1 c at -30 glued", 1, 1);
        tip("a at -10 b at -21 c at 5 glued", 1, 0);
        tip("a at 1 b at -900 glued", 0, 1);
        tip("a at -61 b at 900 glued", 0, 0);
        // A heavy a stays, while b beyond its end draws c with it, to either side of b.
        String heavy = "book a 10 20;book b 10 1;book c 10 1;table 50;pile a at -30 ";
        due("to the right, c to the right", told(heavy + "b at -19 c at -15 glued;").tips(1), 1);
        due("to the right, c to the left", told(heavy + "b at -19 c at -60 glued;").tips(1), 1);
        due("to the left, c to the left", told(heavy + "b at -41 c at -60 glued;").tips(1), 0);
        due("to the left, c to the right", told(heavy + "b at -41 c at -15 glued;").tips(1), 0);
        due("at level 1", told(heavy + "b at -41 c at -60 glued;").tips(0), 1);
        due("at level 2", told(heavy + "b at -25 glued c at -14;").tips(0), 2);
        due("at level 2, to the right", told(heavy + "b at -25 glued c at -14;").tips(1), 1);
        due("at level 2", told(heavy + "b at -35 glued c at -46;").tips(0), 2);
        due("at level 2, to the left", told(heavy + "b at -35 glued c at -46;").tips(1), 0);
    }

    private static void overTheEdge() {
        says("OVER: how far the right end that is farthest to the right is beyond the edge (0 if it is not, without BOOKS).");
        due("without BOOKS", told("").over(), 0);
        due("none in the PILE", told(THREE).over(), 0);
        due("ahead", told(THREE + "pile a at -11;").over(), 0);
        due("at the edge", told(THREE + "pile a at -10;").over(), 0);
        due("by 1", told(THREE + "pile a at -9;").over(), 1);
        due("the lowest", told(THREE + "pile a at -3 b at -20 c at -30;").over(), 7);
        due("the middle", told(THREE + "pile a at -20 b at -3 c at -30;").over(), 7);
        due("the topmost", told(THREE + "pile a at -20 b at -30 c at -3;").over(), 7);
        due("the longer", told("book a 50 1;book b 1 1;pile a at -10 b at 0;").over(), 40);
        due("the farthest", told("book a 99 1;pile a at 999;").over(), 1098);
        due("the least", told("book a 1 1;pile a at -999;").over(), 0);
    }

    private static void allLevelsStand() {
        says("A PILE STANDS if all its levels do.");
        // The heaviest lowest, so that what hangs over above leaves the levels below standing.
        String pile = "pile f at -9 e at -9 d at -9 c at -9 b at -9 a at -9;";
        yes("all six", told(SIX + pile).stands());
        for (int level = 1; level < 6; level++) {
            EdgePile x = told(SIX + pile);
            x.move(level, -4);
            yes("half a one short of the end, level " + level, x.stands());
            x.move(level, -1);
            no("half a one ahead of it, level " + level, x.stands());
            due("there", x.tips(0), level);
            due("to the left", x.tips(1), 0);
        }
    }

    private static void withoutBooks() {
        says("Whether the PILE STANDS (without BOOKS: it does).");
        yes("nothing told", new EdgePile().stands());
        yes("none in the PILE", told(THREE).stands());
        EdgePile x = told(THREE + "pile a at 0;");
        no("one that falls", x.stands());
        x.lift();
        yes("taken off", x.stands());
        x.undo();
        no("there again", x.stands());
    }

    private static void bookAsks() {
        says("-10000: no such ones.");
        EdgePile x = told("book a 10 2;book b 99 20;pile b at -999 a at 7 glued;");
        int[] a = {10, 2, 2, 1, 7, 1};
        int[] b = {99, 20, 20, 0, -999, 0};
        for (int what = 0; what <= 5; what++) {
            due("a " + what, x.book(0, what), a[what]);
            due("b " + what, x.book(1, what), b[what]);
            for (int book : new int[] {-1, 2, 6, LEAST, MOST}) due("book " + book, x.book(book, what), -10000);
        }
        for (int what : new int[] {-1, 6, LEAST, MOST}) due("what " + what, x.book(0, what), -10000);
        due("neither", x.book(-1, -1), -10000);
    }

    private static void bookOutOfThePile() {
        says("3 its level (-2: not in the PILE), 4 its PLACE (-1000: likewise), 5: 1 if glued, else 0.");
        EdgePile x = told(THREE + "pile a at -5 b at -999 glued;");
        due("c's level", x.book(2, 3), -2);
        due("c's PLACE", x.book(2, 4), -1000);
        due("c's glue", x.book(2, 5), 0);
        due("b's level", x.book(1, 3), 1);
        due("b's PLACE", x.book(1, 4), -999);
        due("b's glue", x.book(1, 5), 1);
        x.lift();
        due("b off: level", x.book(1, 3), -2);
        due("b off: PLACE", x.book(1, 4), -1000);
        due("b off: glue", x.book(1, 5), 0);
        x.lay(1, 0, false);
        due("b laid: glue", x.book(1, 5), 0);
        due("a's level", x.book(0, 3), 0);
        due("a's glue", x.book(0, 5), 0);
    }

    private static void levels() {
        says("The BOOK of a level; NONE: no such level.");
        EdgePile x = told(SIX + "pile f at 0 d at 0 b at 0;");
        int[] books = {5, 3, 1};
        for (int i = 0; i < 3; i++) due("level " + i, x.level(i), books[i]);
        for (int level : new int[] {-1, 3, 5, 6, LEAST, MOST}) due("level " + level, x.level(level), -1);
        x.lay(0, 0, false);
        due("one more", x.level(3), 0);
        due("no more", x.level(4), -1);
        x.lift();
        due("one less", x.level(3), -1);
    }

    private static void loadAsks() {
        says("LOAD of a level; NONE: no such one.");
        EdgePile x = told(SIX + "pile f at 0 d at 0;");
        due("level 0", x.load(0), 10);
        due("level 1", x.load(1), 4);
        for (int level : new int[] {-1, 2, 6, LEAST, MOST}) due("level " + level, x.load(level), -1);
        due("none in the PILE", told(SIX).load(0), -1);
    }

    private static void pointAsks() {
        says("a fraction that cannot be lessened (below the line above 0); -1000000: no such level.");
        EdgePile x = told("book a 10 6;book b 9 4;pile a at -15 b at -12;");
        due("-180 by 20 lessened", x.point(0, false), -9);
        due("below", x.point(0, true), 1);
        due("half", x.point(1, false), -15);
        due("below", x.point(1, true), 2);
        for (int level : new int[] {-1, 2, 6, LEAST, MOST}) {
            due("above " + level, x.point(level, false), -1000000);
            due("below " + level, x.point(level, true), -1000000);
        }
        due("0", told("book a 10 6;pile a at -5;").point(0, false), 0);
        due("0 by 1", told("book a 10 6;pile a at -5;").point(0, true), 1);
    }

    private static void tipsAsks() {
        says("-2: it STANDS; NONE for others.");
        EdgePile stands = told(THREE + "pile a at -5;");
        EdgePile falls = told(THREE + "pile a at -30 b at -24;");
        for (int what : new int[] {-1, 2, LEAST, MOST}) {
            due("stands, " + what, stands.tips(what), -1);
            due("falls, " + what, falls.tips(what), -1);
            due("without BOOKS, " + what, new EdgePile().tips(what), -1);
        }
        for (int what = 0; what <= 1; what++) {
            due("stands, " + what, stands.tips(what), -2);
            due("falls, " + what, falls.tips(what), 1);
            due("without BOOKS, " + what, new EdgePile().tips(what), -2);
        }
    }

    private static void lays() {
        says("A BOOK that is not in the PILE is laid on top at a PLACE (-999 .. 999), glued or not: its level");
        EdgePile x = told(SIX);
        int[] places = {-999, 999, 0, -998, 998, 1};
        for (int i = 0; i < 6; i++) due("level " + i, x.lay(5 - i, places[i], i % 2 == 1), i);
        for (int i = 0; i < 6; i++) {
            due("BOOK of level " + i, x.level(i), 5 - i);
            due("PLACE of level " + i, x.book(5 - i, 4), places[i]);
            due("glue of level " + i, x.book(5 - i, 5), i % 2);
        }
        due("six things", x.count(6), 6);
    }

    private static void laysRefused() {
        says("NONE, and nothing happens: no such ones.");
        EdgePile x = told(SIX + "pile a at 3;");
        x.lay(1, 4, true);
        for (int place : new int[] {-1000, 1000, LEAST, MOST}) due("PLACE " + place, x.lay(2, place, true), -1);
        for (int book : new int[] {-1, 6, LEAST, MOST}) due("BOOK " + book, x.lay(book, 0, true), -1);
        due("in the PILE, level 0", x.lay(0, 5, false), -1);
        due("in the PILE, level 1", x.lay(1, 5, false), -1);
        due("levels", x.count(1), 2);
        due("things", x.count(6), 1);
        due("a's PLACE", x.book(0, 4), 3);
        due("b's PLACE", x.book(1, 4), 4);
        due("b's glue", x.book(1, 5), 1);
        due("c is not there", x.book(2, 3), -2);
        yes("undone: b", x.undo());
        due("b is off", x.book(1, 3), -2);
        due("told so few", told("book a 1 1;").lay(1, 0, false), -1);
        EdgePile full = told(SIX + "pile a at 0 b at 0 c at 0 d at 0 e at 0 f at 0;");
        for (int book = 0; book <= 6; book++) due("full, BOOK " + book, full.lay(book, 0, false), -1);
        due("six levels", full.count(1), 6);
    }

    private static void lifts() {
        says("The topmost is taken off: which BOOK; NONE, and nothing happens: there is none.");
        EdgePile x = told(SIX + "pile c at 1 a at 2 glued;");
        due("a", x.lift(), 0);
        due("one level", x.count(1), 1);
        due("c", x.lift(), 2);
        due("no level", x.count(1), 0);
        for (int i = 0; i < 3; i++) due("none", x.lift(), -1);
        due("two things", x.count(6), 2);
        yes("undone", x.undo());
        due("c is back", x.level(0), 2);
        yes("undone", x.undo());
        due("a is back", x.level(1), 0);
        due("glued", x.book(0, 5), 1);
        due("there", x.book(0, 4), 2);
        no("no more", x.undo());
        due("nothing told", new EdgePile().lift(), -1);
    }

    private static void moves() {
        says("A level and all above it are moved by so much (each PLACE is within -999 .. 999 then): true");
        EdgePile x = told(THREE + "pile a at -999 b at 0 c at 990;");
        yes("c to 999", x.move(2, 9));
        due("c", x.book(2, 4), 999);
        due("b stays", x.book(1, 4), 0);
        yes("the whole way", x.move(2, -1998));
        due("c", x.book(2, 4), -999);
        yes("and back", x.move(2, 1998));
        yes("b and c by -1", x.move(1, -1));
        due("b", x.book(1, 4), -1);
        due("c", x.book(2, 4), 998);
        due("a stays", x.book(0, 4), -999);
        yes("by 0", x.move(0, 0));
        yes("all by 1", x.move(0, 1));
        due("a", x.book(0, 4), -998);
        due("c", x.book(2, 4), 999);
        due("six things, by 0 too", x.count(6), 6);
    }

    private static void movesRefused() {
        says("false, and nothing happens: no such ones.");
        EdgePile x = told(THREE + "pile a at -999 b at 0 c at 990;");
        no("c to 1000", x.move(2, 10));
        no("b may, c not", x.move(1, 10));
        no("a to -1000", x.move(0, -1));
        no("a may, c not", x.move(0, 10));
        no("b to -1000", x.move(1, -1000));
        for (int by : new int[] {LEAST, LEAST + 990, LEAST + 1989, MOST, MOST - 999, 1999, -1999, 2000, -2000}) {
            for (int level = 0; level <= 2; level++) no("by " + by, x.move(level, by));
        }
        for (int level : new int[] {-1, 3, 6, LEAST, MOST}) {
            no("level " + level, x.move(level, 0));
            no("level " + level, x.move(level, 1));
        }
        due("a", x.book(0, 4), -999);
        due("b", x.book(1, 4), 0);
        due("c", x.book(2, 4), 990);
        due("no thing", x.count(6), 0);
        no("nothing to undo", x.undo());
        no("none in the PILE", told(THREE).move(0, 0));
    }

    private static void undoes() {
        says("The last thing done (lay, lift, move) is undone: true; false: there is none");
        EdgePile x = told(THREE + "pile a at -9 b at 3 glued;");
        no("nothing done", x.undo());
        x.lay(2, 7, true);
        x.move(1, -5);
        x.lift();
        x.lift();
        yes("lift of b", x.undo());
        due("b", x.book(1, 4), -2);
        due("b is glued", x.book(1, 5), 1);
        yes("lift of c", x.undo());
        due("c", x.book(2, 4), 2);
        due("c is glued", x.book(2, 5), 1);
        yes("move", x.undo());
        due("b", x.book(1, 4), 3);
        due("c", x.book(2, 4), 7);
        due("a", x.book(0, 4), -9);
        yes("lay", x.undo());
        due("c is off", x.book(2, 3), -2);
        due("two levels", x.count(1), 2);
        no("there is none", x.undo());
        due("nothing happened", x.count(1), 2);
        x.move(0, 1);
        yes("one again", x.undo());
        no("what is undone is no thing done", x.undo());
        due("a", x.book(0, 4), -9);
    }

    private static void undoesFifty() {
        says("(the last 50 can be)");
        for (int things : new int[] {49, 50, 51, 99, 100, 101, 150}) {
            EdgePile x = told("book a 10 2;pile a at -200;");
            for (int i = 1; i <= things; i++) x.move(0, i % 3);
            int can = Math.min(50, things);
            due(things + ": things", x.count(6), can);
            for (int i = 0; i < can; i++) yes(things + ": undo " + i, x.undo());
            no(things + ": no more", x.undo());
            due(things + ": none", x.count(6), 0);
            due(things + ": where it was", x.book(0, 4), -200 + movedBy(things - can));
        }
        EdgePile y = told("book a 10 2;pile a at 0;");
        for (int i = 0; i < 50; i++) y.move(0, 1);
        yes("one undone", y.undo());
        due("49", y.count(6), 49);
        y.move(0, 100);
        due("50 again", y.count(6), 50);
        y.move(0, 200);
        due("50 still", y.count(6), 50);
        for (int i = 0; i < 50; i++) y.undo();
        due("the first one stays done", y.book(0, 4), 1);
        no("no more", y.undo());
    }

    private static int movedBy(int things) {
        int sum = 0;
        for (int i = 1; i <= things; i++) sum += i % 3;
        return sum;
    }

    /** All three kinds through the ring's end. */
    private static void undoesAll() {
        says("(the last 50 can be)");
        EdgePile x = told(THREE + "pile a at 0;");
        for (int i = 0; i < 20; i++) {
            x.lay(1, i, i % 2 == 0);
            x.move(1, 3);
            x.lift();
            x.move(0, 1);
        }
        due("50", x.count(6), 50);
        for (int i = 19; i >= 8; i--) {
            yes("move", x.undo());
            yes("lift", x.undo());
            due("b", x.book(1, 4), i + 3);
            due("glue", x.book(1, 5), 1 - i % 2);
            yes("move", x.undo());
            due("b", x.book(1, 4), i);
            yes("lay", x.undo());
            due("off", x.book(1, 3), -2);
            due("a", x.book(0, 4), i);
        }
        yes("49th", x.undo());
        yes("50th", x.undo());
        due("b is there", x.book(1, 4), 10);
        no("no more", x.undo());
    }

    private static void holds() {
        says("The PILE is held in a SLOT (0 .. 2): true; false: no such one.");
        EdgePile x = told(THREE + "pile a at -5 b at -4 glued;");
        for (int slot : new int[] {-1, 3, LEAST, MOST}) no("slot " + slot, x.hold(slot));
        due("none", x.count(8), 0);
        for (int slot = 0; slot < 3; slot++) {
            yes("slot " + slot, x.hold(slot));
            due("one more", x.count(8), slot + 1);
            x.move(0, 1);
        }
        due("a hold is no thing done", x.count(6), 3);
        for (int slot = 2; slot >= 0; slot--) {
            yes("restore " + slot, x.restore(slot));
            due("a", x.book(0, 4), -5 + slot);
            due("b", x.book(1, 4), -4 + slot);
            due("glue", x.book(1, 5), 1);
        }
        yes("held anew", x.restore(2) && x.hold(1));
        due("three still", x.count(8), 3);
        yes("restore", x.restore(0) && x.restore(1));
        due("the last one held", x.book(0, 4), -3);
    }

    private static void restores() {
        says("It goes on from what a SLOT holds (that stays there; nothing can be undone then): true");
        EdgePile x = told(THREE + "pile a at -5;");
        x.hold(0);
        x.lay(1, 7, true);
        x.lay(2, 8, false);
        x.see(true);
        yes("restore", x.restore(0));
        due("one level", x.count(1), 1);
        due("b is off", x.book(1, 3), -2);
        due("nothing can be undone", x.count(6), 0);
        no("nothing can be undone", x.undo());
        due("SEEN stays", x.count(7), 1);
        due("it goes on", x.lay(1, 9, false), 1);
        due("one thing", x.count(6), 1);
        yes("it stays there", x.restore(0));
        due("as held", x.count(1), 1);
        due("held still", x.count(8), 1);
        x.lift();
        yes("a PILE without BOOKS is held too", x.hold(2));
        due("two", x.count(8), 2);
        yes("restore", x.restore(0));
        due("a", x.count(1), 1);
        yes("restore of none", x.restore(2));
        due("no levels", x.count(1), 0);
        yes("of the same", x.hold(0) && x.restore(0));
        due("no levels", x.count(1), 0);
    }

    private static void restoresRefused() {
        says("false, and nothing happens: no such one, nothing is held.");
        EdgePile x = told(THREE + "pile a at -5;");
        x.hold(1);
        x.move(0, 3);
        for (int slot : new int[] {-1, 3, LEAST, MOST}) no("slot " + slot, x.restore(slot));
        no("nothing in 0", x.restore(0));
        no("nothing in 2", x.restore(2));
        due("nothing happened", x.book(0, 4), -2);
        due("one thing", x.count(6), 1);
        due("one SLOT", x.count(8), 1);
        yes("it can be undone", x.undo());
        due("undone", x.book(0, 4), -5);
        no("nothing told, nothing held", new EdgePile().restore(0));
    }

    private static void counts() {
        says("7 SEEN ones, 8 SLOTS that hold something. NONE for others.");
        EdgePile x = told("book a 10 2;book b 10 1;table 77;fly 1 on a 1;fly 0 on b 1;fly 2 on a 2;pile a at 1;");
        x.lay(1, 1, false);
        due("4: both", x.count(4), 3);
        x.lift();
        due("4: a's alone", x.count(4), 2);
        x.see(true);
        x.hold(1);
        x.feed(0, 0, 0, 0, 0);
        int[] counts = {2, 1, 77, 3, 2, 20, 2, 1, 1};
        for (int i = 0; i < counts.length; i++) due("count " + i, x.count(i), counts[i]);
        for (int what : new int[] {-1, 9, LEAST, MOST}) due("count " + what, x.count(what), -1);
        x.undo();
        x.undo();
        x.lift();
        due("4: none", x.count(4), 0);
        due("3: all the same", x.count(3), 3);
    }
}
