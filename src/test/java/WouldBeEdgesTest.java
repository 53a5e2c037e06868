/** The boundary cases of the document's part III and of promises 17 to 26, sentence by sentence. */
public final class WouldBeEdgesTest extends Checks {
    private static final int LEAST = Integer.MIN_VALUE;
    private static final int MOST = Integer.MAX_VALUE;
    private static final String TWO = "book a 10 1;book b 10 1;table 50;";
    private static final String THREE = "book a 10 1;book b 10 1;book c 10 1;";
    private static final String SIX = "book a 9 1;book b 9 1;book c 9 1;book d 9 1;book e 9 1;book f 9 1;";

    public static void main(String[] args) {
        bearsAtMost();
        bearsNone();
        holdsAtLeast();
        bearsBetween();
        bearsOnSix();
        bearsOnUpperAndLower();
        bearsAsks();
        pushedTwoHundred();
        pushedLevelByLevel();
        pushedFallen();
        pushedAllLesser();
        pushedAsks();
        takingsNow();
        takingsGlue();
        slidesTwoHundred();
        slidesAllBetween();
        slidesAsks();
        outs();
        outGlue();
        reaches();
        reachDigits();
        reachOrders();
        bestOrders();
        bestOrdersOfAll();
        bestOrderSets();
        alikes();
        neededs();
        neededAsks();
        finish();
    }

    private static final String HEAVY = "book a 99 1;book b 99 1;heavy a=99;heavy b=99;";

    /** Twice the POINT times the LOAD of level 0 is -19998 without a FLY, and a at 99 lies 1 beyond the edge. */
    private static void bearsAtMost() {
        says("the heaviest FLY more (0 .. 9999) with which there the PILE STANDS");
        String pile = "pile a at -98 b at -102 glued;";
        due("9999 just", told(HEAVY + pile).bears(0, 99), 9999);
        due("9998", told(HEAVY + pile + "fly 1 on a 99;").bears(0, 99), 9998);
        due("10000 is too many", told(HEAVY + pile + "fly 1 on a 97;").bears(0, 99), 9999);
        due("any, at the edge", told(HEAVY + pile).bears(0, 98), 9999);
        due("0 at the right end", told(TWO + "pile a at -5;").bears(0, 10), 0);
        due("0 half a one beyond", told("book a 9 1;pile a at -5;").bears(0, 6), 0);
        due("any, at the edge", told(TWO + "pile a at -5;").bears(0, 5), 9999);
        due("4 just", told(TWO + "pile a at -9;").bears(0, 10), 4);
        due("less than 4", told(TWO + "fly 1 on a 10;pile a at -9;").bears(0, 10), 3);
        due("0 at the left end", told(TWO + "pile a at -55;").bears(0, 0), 0);
        due("4 at the left end", told(TWO + "pile a at -51;").bears(0, 0), 4);
        due("any, at the TABLE's left end", told(TWO + "pile a at -51;").bears(0, 1), 9999);
    }

    private static void bearsNone() {
        says("(-2: with none)");
        for (String pile : new String[] {"a at 0", "a at 1", "a at -60", "a at -61", "a at -30 b at -19"}) {
            EdgePile x = told(TWO + "pile " + pile + ";");
            for (int at = 0; at <= 10; at++) {
                due("bears " + pile, x.bears(0, at), -2);
                due("holds " + pile, x.holds(0, at), -2);
            }
        }
        EdgePile edge = told(TWO + "pile a at -4;");
        due("bears at the edge", edge.bears(0, 4), -2);
        due("holds at the edge", edge.holds(0, 4), -2);
        due("bears ahead of it", edge.bears(0, 3), 9999);
        due("holds ahead of it", edge.holds(0, 3), 1);
    }

    /** Twice the POINT times the LOAD of level 0 is 19998 without a FLY, and a at 0 lies 1 ahead of the edge. */
    private static void holdsAtLeast() {
        says("HOLDS likewise: the least.");
        String pile = "pile a at -1 b at 3 glued;";
        due("9999 just", told(HEAVY + pile).holds(0, 0), 9999);
        due("9999 and no more", told(HEAVY + pile).bears(0, 0), 9999);
        due("9998", told(HEAVY + pile + "fly 1 on a 0;").holds(0, 0), 9998);
        due("10000 is too many", told(HEAVY + pile + "fly 1 on a 2;").holds(0, 0), -2);
        due("none to bear", told(HEAVY + pile + "fly 1 on a 2;").bears(0, 0), -2);
        due("0: it stands", told(TWO + "pile a at -5;").holds(0, 0), 0);
        due("0: it stands", told(TWO + "pile a at -5;").holds(0, 10), 0);
        due("1: a quarter would do", told(TWO + "pile a at -4;").holds(0, 0), 1);
        due("1 just", told(TWO + "pile a at -4;").holds(0, 3), 1);
        due("2: 3 by 2", told(TWO + "pile a at -2;").holds(0, 0), 2);
        due("3 just", told(TWO + "pile a at -2;").holds(0, 1), 3);
        due("at the left end: 3 just", told(TWO + "pile a at -58;").holds(0, 9), 3);
        due("at the left end: 3 by 2", told(TWO + "pile a at -58;").holds(0, 10), 2);
    }

    /** A FLY at b's left end: level 1 needs 4f <= 20, level 0 needs 8f >= 6a - 60. */
    private static void bearsBetween() {
        says("BEARS of a BOOK in the PILE, at so much from its left end");
        int[] weights = {10, 11, 14, 15, 16, 17};
        int[] least = {0, 1, 3, 4, 5, -2};
        for (int i = 0; i < weights.length; i++) {
            EdgePile x = told("book a 20 " + weights[i] + ";book b 10 20;pile a at -4 b at -8;");
            due("bears, a weighs " + weights[i], x.bears(1, 0), least[i] < 0 ? -2 : 5);
            due("holds, a weighs " + weights[i], x.holds(1, 0), least[i]);
        }
        EdgePile x = told("book a 20 14;book b 10 20;pile a at -4 b at -8;");
        due("3", x.holds(1, 0), 3);
        x.move(0, -3);
        due("one asked ahead does not count: 0", x.holds(1, 0), 0);
        due("at the left end as ahead", x.bears(1, 0), 5);
        // At -8: level 1 needs -120 - 8f >= -7(20 + f).
        due("nearer to a's end", x.bears(1, 3), 20);
    }

    /** As many levels as there can be, where each one counts: the POINT is half a one ahead of the edge. */
    private static void bearsOnSix() {
        says("BEARS of a BOOK in the PILE, at so much from its left end");
        EdgePile x = told(SIX + "pile a at -5 b at -5 c at -5 d at -5 e at -5 f at -5;");
        for (int book = 0; book < 6; book++) {
            due("bears 3 by 1, " + book, x.bears(book, 6), 3);
            due("bears 3 by 4, " + book, x.bears(book, 9), 0);
            due("bears any, " + book, x.bears(book, 5), 9999);
            due("holds, " + book, x.holds(book, 0), 0);
        }
        x.move(0, 1);
        for (int book = 0; book < 6; book++) {
            due("holds 3 by 1, " + book, x.holds(book, 3), 3);
            due("holds 3 by 4, " + book, x.holds(book, 0), 1);
            due("holds none, " + book, x.holds(book, 4), -2);
        }
    }

    private static void bearsOnUpperAndLower() {
        says("FLY more (0 .. 9999) with which there the PILE STANDS");
        EdgePile x = told(TWO + "pile a at -20 b at -16;");
        due("b's right end", x.bears(1, 10), 0);
        due("b's, above a's right end", x.bears(1, 6), 9999);
        due("a's right end", x.bears(0, 10), 9999);
        due("a's left end", x.bears(0, 0), 9999);
        EdgePile glue = told(TWO + "pile a at -10 b at -4 glued;");
        due("glued: at 10, 4 by 6", glue.bears(1, 10), 0);
        due("glued: at 5, 4 by 1", glue.bears(1, 5), 4);
        due("glued: at 4", glue.bears(1, 4), 9999);
        EdgePile falls = told(TWO + "pile a at -20 b at -14;");
        due("no FLY on a helps b", falls.bears(0, 10), -2);
        due("no FLY on a helps b", falls.holds(0, 10), -2);
        due("one on b does", falls.holds(1, 0), 1);
        due("any on b does", falls.bears(1, 0), 9999);
        String half = "book a 10 1;book b 9 1;table 50;pile a at -20 b at ";
        for (int place : new int[] {-26, -25, -14, -13}) {
            due("b tips, at " + place, told(half + place + ";").bears(0, 5), -2);
            due("b tips, at " + place, told(half + place + ";").holds(0, 5), -2);
        }
        for (int place : new int[] {-24, -15}) {
            due("b stands, at " + place, told(half + place + ";").bears(0, 5), 9999);
            due("b stands, at " + place, told(half + place + ";").holds(0, 5), 0);
        }
        EdgePile more = told(TWO + "fly 3 on a 10;pile a at -9;");
        due("more than those there", more.bears(0, 10), 1);
    }

    private static void bearsAsks() {
        says("BEARS, so much from its left end (0 .. how LONG it is); NONE (looked at first): no such ones, not in the PILE.");
        for (String pile : new String[] {"a at -5", "a at 0"}) {
            EdgePile x = told("book a 10 1;book b 99 1;pile " + pile + ";");
            boolean stands = x.stands();
            for (int at : new int[] {-1, 11, LEAST, MOST}) {
                due("bears at " + at, x.bears(0, at), -1);
                due("holds at " + at, x.holds(0, at), -1);
            }
            for (int at : new int[] {0, 10}) {
                due("bears at " + at, x.bears(0, at), !stands ? -2 : at == 0 ? 9999 : 0);
                due("holds at " + at, x.holds(0, at), !stands ? -2 : 0);
            }
            for (int book : new int[] {-1, 1, 2, 6, LEAST, MOST}) {
                due("bears, book " + book, x.bears(book, 0), -1);
                due("holds, book " + book, x.holds(book, 0), -1);
            }
            x.lay(1, 0, false);
            yes("b is in the PILE now", x.bears(1, 99) != -1 && x.holds(1, 0) != -1);
            due("b at 100", x.bears(1, 100), -1);
        }
    }

    private static void pushedTwoHundred() {
        says("to the right by the greatest number (0 .. 200) with which that level STANDS");
        String one = "book a 10 1;table 999;pile a at ";
        due("by 0", told(one + "-5;").pushed(0), 5);
        due("by 1", told(one + "-6;").pushed(0), 5);
        due("by 199", told(one + "-204;").pushed(0), 5);
        due("by 200", told(one + "-205;").pushed(0), 5);
        due("by 200, not by 201", told(one + "-206;").pushed(0), 4);
        due("by 200, not so far", told(one + "-211;").pushed(0), 0);
        due("stands then", told(one + "-206;").pushed(1), 1);
        // Glued, b goes 200 whatever comes; the POINT is -37.9 then, so both go 37 more.
        due("glued: by 200", told("book a 99 20;book b 10 1;pile a at -99 b at -10 glued;").pushed(0), 237);
    }

    private static void pushedLevelByLevel() {
        says("PUSHED: from the topmost level down to level 0, one by one, each is moved, with all above");
        EdgePile two = told(TWO + "pile a at -10 b at -10;");
        due("b by 5, then both by 2", two.pushed(0), 7);
        due("stands", two.pushed(1), 1);
        // c by 5 (its POINT is -15), b and c by 2 (-12.5), all by 12 (-12).
        EdgePile three = told(THREE + "pile a at -20 b at -20 c at -20;");
        due("the three", three.pushed(0), 9);
        due("stands", three.pushed(1), 1);
        due("nothing happens", three.book(2, 4), -20);
        due("nothing happens", three.count(6), 0);
        // From the top: by 4, 2, 1, 1, 1, and all by 6 (from a POINT of -37 by 6 on).
        EdgePile six = told(SIX + "pile a at -14 b at -14 c at -14 d at -14 e at -14 f at -14;");
        due("six", six.pushed(0), 10);
        due("six stand", six.pushed(1), 1);
        EdgePile left = told(TWO + "pile a at -20 b at -25;");
        due("from the left end of what it lies on", left.pushed(0), 7);
    }

    private static void pushedFallen() {
        says("0 if it does not stand as it is: OVER then, and whether the PILE STANDS then.");
        EdgePile narrow = told("book a 10 1;table 2;pile a at -9;");
        due("it would stand farther right", narrow.pushed(0), 1);
        due("it does not", narrow.pushed(1), 0);
        EdgePile just = told("book a 10 1;table 2;pile a at -7;");
        due("from where it stands", just.pushed(0), 5);
        due("it does", just.pushed(1), 1);
        EdgePile upper = told(TWO + "pile a at -10 b at -4;");
        due("b by 0, a by 2", upper.pushed(0), 8);
        due("b does not", upper.pushed(1), 0);
        EdgePile lower = told(TWO + "pile a at -4 b at -5;");
        due("b by 6, a by 0", lower.pushed(0), 11);
        due("a does not", lower.pushed(1), 0);
        EdgePile glue = told(TWO + "pile a at -10 b at -10 glued;");
        due("b by 200, a by 0 then", glue.pushed(0), 200);
        due("a does not", glue.pushed(1), 0);
    }

    private static void pushedAllLesser() {
        says("with which that level STANDS, and with all lesser ones");
        String gap = "book a 10 1;fly 5 on a 0;heavy a=if place<0-2 then 1 else if place<0-1 then 99 else 1;";
        due("-3, not -1", told(gap + "pile a at -10;").pushed(0), 7);
        due("from -1: by 0", told(gap + "pile a at -1;").pushed(0), 9);
        due("from -2: it does not stand", told(gap + "pile a at -2;").pushed(0), 8);
    }

    private static void pushedAsks() {
        says("PUSHED: what 0 OVER, 1: 1 if it STANDS, else 0; NONE for others.");
        for (EdgePile x : new EdgePile[] {new EdgePile(), told(TWO), told(TWO + "pile a at -10;")}) {
            for (int what : new int[] {-1, 2, LEAST, MOST}) due("what " + what, x.pushed(what), -1);
            due("stands", x.pushed(1), 1);
        }
        due("without BOOKS", new EdgePile().pushed(0), 0);
        due("none in the PILE", told(TWO).pushed(0), 0);
    }

    private static void takingsNow() {
        says("so that the PILE STANDS now and behind each");
        due("one", told(TWO + "pile a at -5;").takings(), 1);
        due("one that falls", told(TWO + "pile a at -4;").takings(), 0);
        due("falls now, not without b", told(TWO + "pile a at -10 b at -4;").takings(), 0);
        due("two", told(TWO + "pile a at -10 b at -5;").takings(), 2);
        due("b falls without a", told("book a 20 9;book b 10 1;pile a at -16 b at -4;").takings(), 1);
        due("a falls without b", told(TWO + "pile a at -4 b at -6;").takings(), 1);
        // a is never the last one: c a b, a b c, a c b, b a c.
        due("a alone falls", told(THREE + "pile a at -4 b at -6 c at -9;").takings(), 4);
        due("three", told(THREE + "pile a at -10 b at -10 c at -10;").takings(), 6);
        EdgePile again = told(THREE + "pile a at -10 b at -10 c at -10;");
        for (int i = 0; i < 3; i++) due("three, asked again", again.takings(), 6);
        again.lift();
        for (int i = 0; i < 2; i++) due("two of them", again.takings(), 2);
        due("six", told(SIX + "pile a at -9 b at -9 c at -9 d at -9 e at -9 f at -9;").takings(), 720);
        due("five", told(SIX + "pile a at -9 b at -9 c at -9 d at -9 e at -9;").takings(), 120);
        says("(one that was glued to a BOOK taken out is glued to nothing; without BOOKS 1).");
        due("nothing told", new EdgePile().takings(), 1);
        due("none in the PILE", told(SIX).takings(), 1);
        EdgePile x = told(TWO + "pile a at -4;");
        x.lift();
        due("taken off", x.takings(), 1);
    }

    private static void takingsGlue() {
        says("(one that was glued to a BOOK taken out is glued to nothing; without BOOKS 1).");
        due("b first", told(TWO + "pile a at -10 b at -4 glued;").takings(), 1);
        // Without b, c would fall off a: not b first.
        due("not b first", told(THREE + "pile a at -20 b at -20 c at -14 glued;").takings(), 4);
        due("b first too", told(THREE + "pile a at -20 b at -20 c at -15 glued;").takings(), 6);
        due("glue on a kept one holds", told(THREE + "pile c at -10 a at -10 b at -5 glued;").takings(), 6);
        // The POINT of c alone is -4: it stands on the TABLE, but touches neither a nor b.
        due("not on a", told("book a 10 9;book b 10 9;book c 10 1;pile a at -20 b at -20 c at -9 glued;").takings(), 4);
        due("glued on level 0 is nothing", told(TWO + "pile a at -4 glued;").takings(), 0);
    }

    private static void slidesTwoHundred() {
        says("SLIDES of a level: the least and the greatest number (-200 .. 200)");
        String one = "book a 10 1;table 999;pile a at ";
        due("0", told(one + "-5;").slides(0, true), 0);
        due("1", told(one + "-6;").slides(0, true), 1);
        due("199", told(one + "-204;").slides(0, true), 199);
        due("200", told(one + "-205;").slides(0, true), 200);
        due("not 201", told(one + "-206;").slides(0, true), 200);
        due("not 495", told(one + "-500;").slides(0, true), 200);
        due("not -495", told(one + "-500;").slides(0, false), -200);
        String wide = "book a 10 1;table 300;pile a at ";
        due("left 0", told(wide + "-305;").slides(0, false), 0);
        due("left 1", told(wide + "-304;").slides(0, false), -1);
        due("left 199", told(wide + "-106;").slides(0, false), -199);
        due("left 200", told(wide + "-105;").slides(0, false), -200);
        due("left not 201", told(wide + "-104;").slides(0, false), -200);
        EdgePile glue = told("book a 99 1;book b 10 1;heavy a=99;pile a at -99 b at -50 glued;");
        due("glued: 200", glue.slides(1, true), 200);
        due("glued: -200", glue.slides(1, false), -200);
    }

    private static void slidesAllBetween() {
        says("by which it and all above it can be moved so that the PILE STANDS, by all numbers between 0 and it, too");
        String gap = "book a 10 1;fly 5 on a 0;heavy a=if place<0-2 then 1 else if place<0-1 then 99 else 1;";
        due("not over the gap", told(gap + "pile a at -10;").slides(0, true), 7);
        due("nor back", told(gap + "pile a at -1;").slides(0, false), 0);
        due("beside it", told(gap + "pile a at -1;").slides(0, true), 0);
        due("beside it", told(gap + "pile a at -3;").slides(0, true), 0);
        EdgePile x = told(TWO + "pile a at -20 b at -20;");
        due("b right", x.slides(1, true), 5);
        due("b left", x.slides(1, false), -5);
        due("both right", x.slides(0, true), 15);
        due("both left", x.slides(0, false), -35);
        due("the level below counts", told(TWO + "pile a at -6 b at -6;").slides(1, true), 2);
        due("b alone would bear 5", told(TWO + "pile a at -20 b at -20;").slides(1, true), 5);
        due("nothing happens", x.book(1, 4), -20);
        due("nothing happens", x.count(6), 0);
    }

    private static void slidesAsks() {
        says("-2000: it does not stand now; -1000: no such level.");
        EdgePile x = told(TWO + "pile a at -20 b at -15;");
        for (int level : new int[] {-1, 2, 6, LEAST, MOST}) {
            due("level " + level, x.slides(level, true), -1000);
            due("level " + level, x.slides(level, false), -1000);
        }
        due("it stands", x.slides(1, true), 0);
        x.move(1, 1);
        for (int level = 0; level <= 1; level++) {
            due("it does not", x.slides(level, true), -2000);
            due("it does not", x.slides(level, false), -2000);
        }
        due("it would if moved", told(TWO + "pile a at -4;").slides(0, false), -2000);
        due("no level", told(TWO).slides(0, true), -1000);
    }

    private static void outs() {
        says("OUT: 1, 0; NONE: no such level.");
        EdgePile x = told(TWO + "pile a at -10 b at -4;");
        due("b out: it stands then", x.out(1), 1);
        due("a out: it falls", x.out(0), 0);
        for (int level : new int[] {-1, 2, 6, LEAST, MOST}) due("level " + level, x.out(level), -1);
        due("the only one", told(TWO + "pile a at -5;").out(0), 1);
        due("the only one, that falls", told(TWO + "pile a at 5;").out(0), 1);
        due("no level", told(TWO).out(0), -1);
        due("nothing told", new EdgePile().out(0), -1);
        due("nothing happens", x.count(1), 2);
        due("nothing happens", x.book(1, 4), -4);
        due("nothing happens", x.count(6), 0);
        EdgePile six = told(SIX + "pile a at -9 b at -9 c at -9 d at -9 e at -9 f at -4;");
        for (int level = 0; level < 6; level++) due("six, level " + level, six.out(level), level == 5 ? 1 : 0);
    }

    private static void outGlue() {
        says("and all above moved not at all (those glued to it are glued to nothing).");
        EdgePile x = told("book a 10 9;book b 10 9;book c 10 1;pile a at -20 b at -20 c at -9 glued;");
        yes("it stands", x.stands());
        due("without a: glued still", x.out(0), 1);
        due("without b: glued to nothing", x.out(1), 0);
        due("without c", x.out(2), 1);
        due("moved not at all", told(THREE + "pile a at -20 b at -15 c at -10;").out(1), 0);
        due("at the end", told(THREE + "pile a at -20 b at -16 c at -15;").out(1), 1);
    }

    private static void reaches() {
        says("as a fraction that cannot be lessened: the sum, for each, of its WEIGHT times how LONG it is, by twice the WEIGHTS of it and all above.");
        EdgePile x = told("book a 99 20;book b 99 20;book c 99 20;book d 99 20;book e 99 20;book f 99 20;");
        due("six: 4851 by 40", x.reach(123456, false), 4851);
        due("six: 4851 by 40", x.reach(123456, true), 40);
        due("one: 99 by 2", x.reach(6, false), 99);
        due("one: 99 by 2", x.reach(6, true), 2);
        EdgePile least = told("book a 1 1;book b 1 20;");
        due("1 by 2", least.reach(1, false), 1);
        due("1 by 2", least.reach(1, true), 2);
        // b below a: 20 by 42 and 1 by 2; a below b: 1 by 42 and 20 by 40.
        due("41 by 42", least.reach(21, false), 41);
        due("41 by 42", least.reach(21, true), 42);
        due("11 by 21", least.reach(12, false), 11);
        due("11 by 21", least.reach(12, true), 21);
        EdgePile told = told("book a 10 2;book b 10 3;heavy a=99;fly 99 on a 10;pile a at 900 b at 900 glued;");
        due("by their WEIGHTS, no FLIES, no glue", told.reach(12, false), 7);
        due("by 1", told.reach(12, true), 1);
    }

    private static void reachDigits() {
        says("six BOOKS or fewer as digits 1 .. 6 of a number (BOOK 0 is 1), the first digit the lowest: above (or below) the line");
        EdgePile x = told("book a 10 1;book b 20 1;book c 30 1;book d 40 1;book e 50 1;book f 60 1;");
        for (int book = 0; book < 6; book++) due("BOOK " + book, x.reach(book + 1, false), 5 * (book + 1));
        // The lowest one of two counts a quarter of how LONG it is, the topmost one half.
        due("a below f: 65 by 2", x.reach(16, false), 65);
        due("a below f: 65 by 2", x.reach(16, true), 2);
        due("f below a: 20", x.reach(61, false), 20);
        due("f below a: 20", x.reach(61, true), 1);
        due("six: 223 by 4", x.reach(123456, false), 223);
        due("six: 223 by 4", x.reach(123456, true), 4);
    }

    private static void reachOrders() {
        says("-1: no such order (a digit twice, none of a BOOK, no digits).");
        EdgePile x = told(THREE);
        for (int order : new int[] {0, 4, 7, 9, 10, 11, 20, 14, 41, 102, 121, 122, 221, 1231, 3210, 123123, 1000000,
            -1, -12, -321, LEAST, MOST, 1111111111, 123456}) {
            due("above " + order, x.reach(order, false), -1);
            due("below " + order, x.reach(order, true), -1);
        }
        for (int order : new int[] {1, 2, 3, 12, 21, 31, 123, 321, 213}) {
            yes("order " + order, x.reach(order, false) > 0 && x.reach(order, true) > 0);
        }
        EdgePile six = told(SIX);
        yes("six digits", six.reach(654321, true) > 0);
        for (int order : new int[] {7, 17, 71, 1234567, 6543210, 1654321, 6543216, 665432, 60, 654320}) {
            due("order " + order, six.reach(order, false), -1);
        }
    }

    private static void bestOrders() {
        says("BEST ORDER of a set of BOOKS: that with the greatest REACH; of alike ones, from the lowest up, the first by numbers.");
        EdgePile x = told("book a 10 2;book b 10 3;book c 12 4;");
        due("a", x.bestOrder(1), 1);
        due("b", x.bestOrder(2), 2);
        due("c", x.bestOrder(4), 3);
        due("b below a reaches 8, a below b 7", x.bestOrder(3), 21);
        // 231 and 321 both reach 32 by 3, and no other so far.
        due("231 and 321 alike", x.bestOrder(7), 231);
        due("231", x.reach(231, false) * 3 - 32 * x.reach(231, true), 0);
        due("321", x.reach(321, false) * 3 - 32 * x.reach(321, true), 0);
        due("all alike", told(SIX).bestOrder(63), 123456);
        due("some alike", told(SIX).bestOrder(0b110100), 356);
        due("the last one", told(SIX).bestOrder(32), 6);
        // 123 reaches 605 by 42, and 132 but 584 by 42.
        EdgePile three = told("book a 9 4;book b 19 2;book c 11 1;");
        due("123", three.bestOrder(7), 123);
        due("605 by 42", three.reach(123, false), 605);
        due("605 by 42", three.reach(123, true), 42);
        due("292 by 21", three.reach(132, false), 292);
        due("292 by 21", three.reach(132, true), 21);
        due("the longest topmost", told("book a 16 3;book b 15 3;book c 16 3;").bestOrder(7), 213);
        due("the heaviest lowest", told("book a 4 1;book b 12 6;book c 10 1;").bestOrder(7), 213);
        due("as short as can be", told("book a 1 1;book b 1 2;").bestOrder(2), 2);
        // The heavier one below reaches 5821 by 78, the other one 5703 by 78.
        due("the heavier below", told("book a 98 20;book b 99 19;").bestOrder(3), 12);
        due("the heavier below", told("book a 99 19;book b 98 20;").bestOrder(3), 21);
    }

    /** Of every set of some BOOKS: no order reaches farther, and none that reaches as far comes ahead. */
    private static void bestOrdersOfAll() {
        says("that with the greatest REACH; of alike ones, from the lowest up, the first by numbers.");
        String[] texts = {"book a 99 19;book b 97 17;book c 89 13;book d 83 11;book e 79 7;book f 73 20;",
            "book a 1 1;book b 1 2;book c 1 3;book d 1 2;", "book a 2 20;book b 99 1;book c 50 7;book d 51 6;book e 49 8;",
            "book a 10 2;book b 10 3;book c 12 4;book d 11 3;", "book a 12 6;book b 9 8;book c 18 4;book d 8 9;book e 72 1;"};
        EdgePile x = new EdgePile();
        PlainPile plain = new PlainPile();
        for (String text : texts) {
            due("read", Texts.read(x, text), Texts.read(plain, text));
            // Asked from the greatest set down: what one set leaves behind must not count for the next.
            for (int set = (1 << x.count(0)) - 1; set > 0; set--) {
                due("set " + set + " of " + text, x.bestOrder(set), plain.bestOrder(set));
            }
        }
    }

    private static void bestOrderSets() {
        says("BEST ORDER of a set of BOOKS (bits, not none), as such a number; NONE: no such set.");
        EdgePile x = told(THREE);
        for (int set : new int[] {0, 8, 9, 15, 16, 64, 1 << 30, -1, -8, LEAST, MOST}) {
            due("set " + set, x.bestOrder(set), -1);
        }
        for (int set = 1; set <= 7; set++) yes("set " + set, x.bestOrder(set) > 0);
        EdgePile six = told(SIX);
        for (int set : new int[] {0, 64, 65, 127, -1, LEAST}) due("six: set " + set, six.bestOrder(set), -1);
        due("nothing told", new EdgePile().bestOrder(1), -1);
    }

    private static void alikes() {
        says("ALIKE n (1 .. 40): REACH of n BOOKS as long as 1, all as heavy");
        EdgePile x = new EdgePile();
        due("1", x.alike(1, false), 1);
        due("1", x.alike(1, true), 2);
        due("2", x.alike(2, false), 3);
        due("2", x.alike(2, true), 4);
        due("39", x.alike(39, false), 2066035355155033L);
        due("39", x.alike(39, true), 971442083102400L);
        due("40", x.alike(40, false), 2078178381193813L);
        due("40", x.alike(40, true), 971442083102400L);
        says("ALIKE n: above (or below) the line; -1: no such n.");
        for (int n : new int[] {0, 41, -1, LEAST, MOST}) {
            due("above " + n, x.alike(n, false), -1);
            due("below " + n, x.alike(n, true), -1);
        }
    }

    private static void neededs() {
        says("NEEDED for a by b: the least n whose ALIKE is a by b or more.");
        EdgePile x = new EdgePile();
        int[][] all = {{0, 1, 1}, {0, 99, 1}, {1, 99, 1}, {1, 2, 1}, {49, 98, 1}, {50, 99, 2}, {3, 4, 2}, {72, 96, 2},
            {73, 97, 3}, {11, 12, 3}, {89, 97, 4}, {25, 24, 4}, {75, 72, 4}, {99, 95, 5}, {97, 85, 5}, {8, 7, 6},
            {41, 28, 10}, {63, 43, 11}, {17, 8, 39}, {83, 39, 40}, {77, 36, 40}};
        for (int[] one : all) due(one[0] + " by " + one[1], x.needed(one[0], one[1]), one[2]);
        says("-2: not with 40; NONE: no such ones.");
        due("92 by 43", x.needed(92, 43), -2);
        due("15 by 7", x.needed(15, 7), -2);
        due("99 by 1", x.needed(99, 1), -2);
        due("99 by 99", x.needed(99, 99), 4);
    }

    private static void neededAsks() {
        says("NEEDED (a 0 .. 99, b 1 .. 99)");
        EdgePile x = new EdgePile();
        for (int a : new int[] {-1, 100, LEAST, MOST}) due("a " + a, x.needed(a, 1), -1);
        for (int b : new int[] {0, -1, 100, LEAST, MOST}) due("b " + b, x.needed(1, b), -1);
        due("both", x.needed(-1, 0), -1);
        due("0 by 0", x.needed(0, 0), -1);
        due("99 by 99", x.needed(99, 99), 4);
        due("0 by 99", x.needed(0, 99), 1);
        due("99 by 1", x.needed(99, 1), -2);
    }
}
