/** Each promise by answers reckoned by hand. In a text with a FAULT a ^ stands ahead of the byte where it is. */
public final class PromisesTest extends Checks {
    public static void main(String[] args) {
        newObject();
        feed();
        back();
        readTokens();
        readSyntax();
        readRoom();
        readMeaning();
        readChanges();
        book();
        laws();
        lawsAnew();
        lawsOfPlace();
        level();
        loadAndPoint();
        standsAndTips();
        glue();
        over();
        lay();
        lift();
        move();
        undo();
        bears();
        bearsFar();
        pushed();
        takings();
        slides();
        out();
        reach();
        bestOrder();
        alike();
        needed();
        seeAndForget();
        fits();
        span();
        holdAndRestore();
        count();
        finish();
    }

    private static void newObject() {
        EdgePile x = new EdgePile();
        int[] counts = {0, 0, 100, 0, 0, 0, 0, 0, 0};
        for (int i = 0; i < counts.length; i++) due("1: count " + i, x.count(i), counts[i]);
        due("1: place", x.place(), -1);
        yes("1: stands", x.stands());
        due("1: over", x.over(), 0);
        due("1: takings", x.takings(), 1);
        due("1: pushed 0", x.pushed(0), 0);
        due("1: pushed 1", x.pushed(1), 1);
        no("1: undo", x.undo());
        due("1: bestOrder", x.bestOrder(1), -1);
        due("1: fits", x.fits(6, 0), 1);
        due("1: forget", x.forget(), 0);
    }

    private static void feed() {
        EdgePile x = new EdgePile();
        due("2: feed", x.feed(0x626f6f6b, 0x20612031, 0x3920353b, 0x7461626c, 0x65203737), 20);
        due("2: feed more", x.feed(0x3b202020, 0x20202020, 0x20202020, 0x20202020, 0x20202020), 40);
        due("2: read", x.read(), 0);
        due("2: LONG", x.book(0, 0), 19);
        due("2: WEIGHT", x.book(0, 1), 5);
        due("2: table", x.count(2), 77);
        for (int i = 1; i <= 100; i++) due("2: feed " + i, x.feed(0, 0, 0, 0, 0), 20 * i);
        due("2: feed 101", x.feed(0x20202020, 0x20202020, 0x20202020, 0x20202020, 0x20202020), -1);
        due("2: nothing came", x.count(5), 2000);
        due("2: back", x.back(1), 1999);
        due("2: feed over the end", x.feed(1, 1, 1, 1, 1), -1);
        due("2: back", x.back(19), 1980);
        due("2: feed to the end", x.feed(-1, -1, -1, -1, -1), 2000);
    }

    private static void back() {
        EdgePile x = new EdgePile();
        due("3: back of none", x.back(1), -1);
        due("3: back 0", x.back(0), 0);
        x.feed(0x626f6f6b, 0x20612031, 0x3920353b, 0x2a2a2a2a, 0x2a2a2a2a);
        due("3: back -1", x.back(-1), -1);
        due("3: back 21", x.back(21), -1);
        due("3: back of the least", x.back(Integer.MIN_VALUE), -1);
        due("3: back of the most", x.back(Integer.MAX_VALUE), -1);
        due("3: nothing went", x.count(5), 20);
        due("3: back 8", x.back(8), 12);
        due("3: the last ones went", x.read(), 0);
        due("3: tape is empty", x.back(0), 0);
        x.feed(1, 1, 1, 1, 1);
        due("3: back of all", x.back(20), 0);
    }

    private static void readTokens() {
        fine("");
        fine(" \t\n\r ");
        fault(1, "^\u000b");
        fault(1, " ^\u0000");
        fault(1, "table 5^\u00a0;");
        fault(1, "table 5;^\u00ff");
        fine("book a10 2;");
        fault(1, "^booka 10 2;");
        fine("book\tabcdefgh\n1\r1;");
        fault(1, "book ^abcdefghi 1 1;");
        fine("book a 0099 0020;");
        fault(1, "book a ^00099 1;");
        fault(1, "book a 1 ^12345;");
        fault(1, "book ^A 1 1;");
        fault(1, "book a^B 1 1;");
        fault(1, "book a^_ 1 1;");
        for (String word : PlainPile.WORDS) fault(1, "book ^" + word + " 1 1;");
        fine("book ab 1 1;book ba 1 1;book aa 1 1;book a 1 1;book b 1 1;book aaaaaaaa 1 1;");
        fine("book bc 1 1;book c 1 1;book z 1 1;book zz 1 1;book aaaaaaab 1 1;book baaaaaaa 1 1;");
        fault(3, "book zzzzzzzz 1 1;book ^zzzzzzzz 1 1;");
        fine("book iff 1 1;book bo 1 1;book tables 1 1;");
        for (String sign : "> , . : [ ] { } ! % & | \" ' ~ ^".split(" ")) {
            EdgePile x = new EdgePile();
            due("4: no TOKEN " + sign, Texts.read(x, "table 5;" + sign), 1);
            due("5: no TOKEN " + sign, x.place(), 8);
        }
    }

    private static void readSyntax() {
        fault(1, "book a 10 2^");
        fault(1, "book a 10 2  ^");
        fault(1, "book^");
        fault(1, "book a 1 1; ^;");
        fault(1, "^a");
        fault(1, "^5");
        fault(1, "book ^5 1 1;");
        fault(1, "book a ^b 1;");
        fault(1, "book a 1 ^;");
        fault(1, "book a 1 1 ^1;");
        fault(1, "table ^-5;");
        fault(1, "table ^;");
        fine("pile ;");
        fine("book a 1 1;pile a at - 5;");
        fault(1, "book a 1 1;pile a at -^-5;");
        fault(1, "book a 1 1;pile a at ^+5;");
        fault(1, "book a 1 1;pile a ^5;");
        fault(1, "book a 1 1;pile a at 5 glued ^glued;");
        fault(1, "book a 1 1;pile ^glued;");
        fault(1, "book a 1 1;pile a at 5 ^book b 1 1;");
        fault(1, "book a 1 1;fly ^on a 1;");
        fault(1, "book a 1 1;fly 1 ^a 1;");
        fault(1, "book a 1 1;fly 1 on a ^;");
        fault(1, "book a 1 1;fly 1 on a ^-1;");
        fault(1, "book a 1 1;heavy a ^told;");
        fault(1, "book a 1 1;heavy a = ^;");
        fault(1, "book a 1 1;heavy a = ^-1;");
        fault(1, "book a 1 1;heavy a = 1 + ^;");
        fault(1, "book a 1 1;heavy a = 1 * ^/ 2;");
        fault(1, "book a 1 1;heavy a = 1 ^2;");
        fault(1, "book a 1 1;heavy a = ^b;");
        fault(1, "book a 1 1;heavy a = (1^;");
        fault(1, "book a 1 1;heavy a = (^);");
        fault(1, "book a 1 1;heavy a = 1^);");
        fault(1, "book a 1 1;heavy a = 1 ^< 2;");
        fault(1, "book a 1 1;heavy a = (1 ^< 2);");
        fault(1, "book a 1 1;heavy a = if 1 < 2 ^< 3 then 1 else 2;");
        fault(1, "book a 1 1;heavy a = if 1 ^then 1 else 2;");
        fault(1, "book a 1 1;heavy a = if 1 < 2 then 1^;");
        fault(1, "book a 1 1;heavy a = if 1 < 2 then ^if 1 < 2 then 1 else 2 else 3;");
        fault(1, "book a 1 1;heavy a = if 1 < 2 then 1 else ^;");
        fault(1, "book a 1 1;heavy a = 1 + ^if 1 < 2 then 1 else 2;");
        fault(1, "book a 1 1;heavy a = ^else;");
        fine("book a 1 1;heavy a = if 1 < 2 then 1 else if (long) < told*(level+place) then above else 2-1;");
    }

    private static void readRoom() {
        String full = "pile;".repeat(200);
        fine(full);
        fault(2, full + "^pile;");
        fault(2, full + " ^table");
        fault(1, full + "^;");
        fault(1, full + "^#");
        fault(1, full + "^ninechars");
        fine("pile;".repeat(197) + "table 5;".repeat(2));
        fault(1, "pile;".repeat(199) + "table 5^");
        fault(2, "pile;".repeat(199) + "table 5^;");
        fault(1, "pile;".repeat(199) + "table 5^+#");
        String six = "";
        for (String name : "a b c d e f".split(" ")) six += "book " + name + " 9 1;";
        fine(six);
        fault(2, six + "^book g 9 1;");
        fault(2, six + "^book");
        fault(2, six.replace("book b", "book a") + "^book g 9 1;");
        fault(2, six.replace("9", "0") + "^book g 9 1;");
        String flies = "fly 1 on a 0;".repeat(6);
        fine("book a 9 1;" + flies);
        fault(2, "book a 9 1;" + flies + "^fly 1 on a 0;");
        fault(2, flies + "^fly");
        String choice = "if 1 < 0 then 1 else ";
        fine("book a 9 1;heavy a = " + choice.repeat(4) + "3;");
        fault(2, "book a 9 1;heavy a = " + choice.repeat(4) + "^" + choice + "3;");
        fault(2, "heavy a = " + choice.repeat(4) + "^if");
        fine("book a 9 1;" + ("heavy a = " + choice.repeat(3) + "3;").repeat(3));
        String deep = "((((((1))))))";
        fine("book a 9 1;heavy a = " + deep + ";");
        fine("book a 9 1;heavy a = " + deep + "*" + deep + "+" + deep + ";");
        fine("book a 9 1;heavy a = " + "(1)+".repeat(20) + "1;");
        fault(2, "book a 9 1;heavy a = ((((((^(1)))))));");
        fault(2, "book a 9 1;heavy a = ((((((1+2*^(1)))))));");
        fault(2, "book a 9 1;heavy a = if 1 < ((((((^(");
        fault(1, "book a 9 1;heavy a = ((((((^;");
        fault(2, "book a 9 1;heavy a = ((((((^();");
    }

    private static void readMeaning() {
        fault(3, "book a 1 1;book ^a 1 1;");
        fault(3, "book a 1 1;book ^a 0 0;");
        fault(3, "book a 1 1;book b 1 1;pile a at 1 b at 2 ^a at 3;");
        fault(3, "book a 1 1;pile a at 1 ^a at 1000;");
        fine("book a 1 1;pile a at 1;pile a at 2;");
        fault(4, "heavy ^a = 1;");
        fault(4, "pile ^a at 1;");
        fault(4, "pile ^a at 1;book a 1 1;");
        fault(4, "heavy ^a = 1;book a 1 1;");
        fault(4, "fly 1 on ^a 0;book a 1 1;");
        fault(4, "pile ^a at 1 a at 2;");
        fault(4, "fly 1 on ^a 9999;");
        fault(5, "book a ^0 1;");
        fault(5, "book a ^100 1;");
        fine("book a 1 1;book b 99 20;");
        fault(5, "book a 1 ^0;");
        fault(5, "book a 1 ^21;");
        fault(5, "book a ^0 0;");
        fault(5, "table ^0;");
        fault(5, "table ^1000;");
        fault(5, "table ^1000;table 5;");
        fine("table 1;table 999;");
        fault(5, "book a 1 1;pile a at ^1000;");
        fault(5, "book a 1 1;pile a at - ^1000;");
        fault(5, "book a 1 1;pile a at -^9999 glued;");
        fine("book a 1 1;book b 1 1;pile a at -999 b at 999;");
        fault(5, "book a 9 1;fly ^100 on a 0;");
        fault(5, "book a 9 1;fly 1 on a ^10;");
        fault(5, "book a 9 1;fly ^100 on b 10;");
        fine("book a 9 1;fly 99 on a 9;fly 0 on a 0;");
        fine("book a 9 1;heavy a = 9999;");
        fault(5, "book a ^100 1;book a 1 1;heavy b = 1;");
        fault(4, "pile ^b at 1;book a 100 1;");
        fault(1, "book a 0 1;book b ^;");
        fault(1, "book a 1 1;book a 1 1;pile b at 1^");
    }

    private static void readChanges() {
        EdgePile x = told("book a 10 2;table 50;pile a at -9;fly 1 on a 1;");
        x.move(0, 1);
        x.hold(1);
        x.see(true);
        due("4: FAULT", Texts.read(x, "book b 5 5;table 7;pile b at 1 b at 2;"), 3);
        due("5: its place", x.place(), 31);
        due("4: tape is empty", x.count(5), 0);
        int[] same = {1, 1, 50, 1, 1, 0, 1, 1, 1};
        for (int i = 0; i < same.length; i++) due("4: as it was, count " + i, x.count(i), same[i]);
        due("4: as it was", x.book(0, 4), -8);
        yes("4: can be undone", x.undo());
        due("4: undone", x.book(0, 4), -9);
        due("5: place stays", x.place(), 31);
        x.move(0, 1);
        due("4: no FAULT", Texts.read(x, "book b 5 5;book c 6 6;"), 0);
        due("5: none", x.place(), -1);
        int[] fresh = {2, 0, 100, 0, 0, 0, 0, 0, 0};
        for (int i = 0; i < fresh.length; i++) due("4: new, count " + i, x.count(i), fresh[i]);
        due("4: new LONG", x.book(0, 0), 5);
        no("4: nothing is held", x.restore(1));
        no("4: nothing can be undone", x.undo());
        due("4: nothing is SEEN", x.fits(1, 1), -1);
        x.lay(1, 5, true);
        due("4: of nothing", x.read(), 0);
        due("4: no BOOKS", x.count(0), 0);
        due("4: no levels", x.count(1), 0);
    }

    private static void book() {
        EdgePile x = told("book a 10 2;book b 99 20;book c 1 1;heavy c = 50;pile b at -999 a at 7 glued;");
        due("6: LONG", x.book(1, 0), 99);
        due("6: WEIGHT", x.book(1, 1), 20);
        due("6: WEIGHS", x.book(1, 2), 20);
        due("6: level", x.book(1, 3), 0);
        due("6: level", x.book(0, 3), 1);
        due("6: PLACE", x.book(1, 4), -999);
        due("6: PLACE", x.book(0, 4), 7);
        due("6: glued", x.book(0, 5), 1);
        due("6: not glued", x.book(1, 5), 0);
        due("6: WEIGHS in no PILE", x.book(2, 2), 1);
        due("6: no level", x.book(2, 3), -2);
        due("6: no PLACE", x.book(2, 4), -1000);
        due("6: no glue", x.book(2, 5), 0);
        due("6: laid", x.lay(2, 0, false), 2);
        due("6: WEIGHS in the PILE", x.book(2, 2), 50);
        due("6: no such BOOK", x.book(3, 0), -10000);
        due("6: no such BOOK", x.book(-1, 3), -10000);
        due("6: no such what", x.book(0, 6), -10000);
        due("6: no such what", x.book(0, -1), -10000);
        due("6: neither", x.book(Integer.MAX_VALUE, Integer.MIN_VALUE), -10000);
    }

    private static void law(String law, int weighs) {
        EdgePile x = told("book a 10 7;heavy a = " + law + ";pile a at -3;");
        due("6: " + law, x.book(0, 2), weighs);
    }

    private static void laws() {
        law("told", 7);
        law("long", 10);
        law("1+2*3", 7);
        law("(1+2)*3", 9);
        law("10-3-2", 5);
        law("10-(3-2)", 9);
        law("100/7/2", 7);
        law("2*7/4", 3);
        law("(0-7)/2+10", 7);
        law("7/(0-2)+10", 7);
        law("0", 1);
        law("0-5", 1);
        law("99", 99);
        law("100", 99);
        law("9999", 99);
        law("5/0", 1);
        law("50+5/0", 1);
        law("50+0*(5/(2-2))", 1);
        law("if 1<2 then 5 else 1/0", 5);
        law("if 1/0<2 then 5 else 6", 1);
        law("if 1<2/0 then 5 else 6", 1);
        law("if 2<1 then 1/0 else 6", 6);
        law("if 1<2 then 1/0 else 6", 1);
        law("if 1<1 then 5 else 6", 6);
        law("if 0-1<0 then 5 else 6", 5);
        law("if 2<1 then 3 else if 1<2 then 4 else 5", 4);
        law("if 1<2 then 3 else if 1<2 then 4 else 5", 3);
        law("if 2<1 then 3 else if 2<1 then 4 else 5", 5);
        law("if 1<2 then 3 else if 1/0<1 then 4 else 5", 3);
        law("if 2<1 then 2 else if 2<1 then 3 else if 2<1 then 4 else if 2<1 then 5 else 6", 6);
        law("8192*8192*64+5", 5);
        law("8192*8192*32", 1);
        law("(8192*8192*32-1)/9999/9999", 21);
        law("(8192*8192*32)/(0-1)", 1);
        law("if 8192*8192*32<0 then 8 else 9", 8);
        law("place+10", 7);
        law("level+3", 3);
        law("above+4", 4);
        law("1;heavy a = 12", 12);
        law("12;heavy a = told", 7);
    }

    private static void lawsAnew() {
        EdgePile x = new EdgePile();
        String law = "1+".repeat(150);
        for (int i = 0; i < 10; i++) {
            due("4: again", Texts.read(x, "book a 1 1;heavy a = (" + law + "0)/2+" + i + ";pile a at 0;"), 0);
            due("6: anew", x.book(0, 2), 75 + i);
        }
        due("4: 400 TOKENS", Texts.read(x, "book a 1 1;heavy a = told" + "-1+2".repeat(96) + "-1;pile;pile;"), 0);
        x.lay(0, 0, false);
        due("6: a long law", x.book(0, 2), 96);
    }

    private static void lawsOfPlace() {
        EdgePile x = told("book a 10 7;book b 8 3;book c 6 2;heavy a = above*10+level;heavy b = level*10+above;"
            + "heavy c = 40-place;pile a at -9 b at -8;");
        due("6: above", x.book(0, 2), 10);
        due("6: level", x.book(1, 2), 10);
        due("6: in no PILE", x.book(2, 2), 2);
        due("6: lay", x.lay(2, -7, false), 2);
        due("6: two above", x.book(0, 2), 20);
        due("6: one above", x.book(1, 2), 11);
        due("6: place", x.book(2, 2), 47);
        yes("6: move", x.move(1, 3));
        due("6: place", x.book(2, 2), 44);
        due("8: LOAD by laws", x.load(0), 75);
    }

    private static void level() {
        EdgePile x = told("book a 10 2;book b 5 1;pile b at 1 a at 2;");
        due("7: level 0", x.level(0), 1);
        due("7: level 1", x.level(1), 0);
        due("7: level 2", x.level(2), -1);
        due("7: level -1", x.level(-1), -1);
        due("7: most", x.level(Integer.MAX_VALUE), -1);
    }

    private static void loadAndPoint() {
        EdgePile x = told("book a 10 2;book b 10 3;book c 5 1;fly 4 on a 0;fly 5 on b 10;fly 7 on c 1;"
            + "pile a at -10 b at -8;");
        due("8: LOAD 1", x.load(1), 8);
        due("8: LOAD 0", x.load(0), 14);
        due("8: LOAD 2", x.load(2), -1);
        due("8: LOAD -1", x.load(-1), -1);
        due("9: POINT 1", x.point(1, false), 1);
        due("9: POINT 1", x.point(1, true), 8);
        due("9: POINT 0", x.point(0, false), -7);
        due("9: POINT 0", x.point(0, true), 2);
        due("9: POINT 2", x.point(2, false), -1000000);
        due("9: POINT -1", x.point(-1, true), -1000000);
        due("8: lay", x.lay(2, 0, false), 2);
        due("8: LOAD 2", x.load(2), 8);
        due("9: POINT 2", x.point(2, false), 19);
        due("9: POINT 2", x.point(2, true), 16);
        EdgePile y = told("book a 10 2;pile a at -5;");
        due("9: 0 above", y.point(0, false), 0);
        due("9: 0 by 1", y.point(0, true), 1);
    }

    private static void tip(String pile, int level, int side) {
        EdgePile x = told("book a 10 2;book b 10 1;book c 9 1;table 50;pile " + pile + ";");
        due("10: stands " + pile, x.stands() ? 1 : 0, level == -2 ? 1 : 0);
        due("11: level " + pile, x.tips(0), level);
        due("11: side " + pile, x.tips(1), side);
        due("11: other " + pile, x.tips(2), -1);
        due("11: other " + pile, x.tips(-1), -1);
    }

    private static void standsAndTips() {
        tip("", -2, -2);
        tip("a at -5", -2, -2);
        tip("a at -4", 0, 1);
        tip("c at -5", -2, -2);
        tip("c at -4", 0, 1);
        tip("a at -55", -2, -2);
        tip("a at -56", 0, 0);
        tip("a at 0", 0, 1);
        tip("a at 1", 0, 1);
        tip("a at -60", 0, 0);
        tip("a at -61", 0, 0);
        tip("a at -30 b at -25", -2, -2);
        tip("a at -30 b at -24", 1, 1);
        tip("a at -30 b at -20", 1, 1);
        tip("a at -30 b at -19", 1, 1);
        tip("a at -30 b at -35", -2, -2);
        tip("a at -30 b at -36", 1, 0);
        tip("a at -30 b at -40", 1, 0);
        tip("a at -30 b at -41", 1, 0);
        tip("a at -30 b at -24 c at -24", 1, 1);
        tip("a at -30 b at -36 c at -42", 1, 0);
        tip("a at -30 b at -24 c at -10", 0, 1);
        tip("a at -30 b at -30 c at -24", 2, 1);
        tip("a at -4 b at -41", 0, 0);
        tip("a at -6 b at -3", -2, -2);
        tip("a at -6 b at -2", 0, 1);
    }

    private static void glue() {
        tip("a at -10 b at 200 glued", 0, 1);
        tip("a at -10 b at 2 glued", -2, -2);
        tip("a at -10 b at 5 glued", -2, -2);
        tip("a at -10 b at 6 glued", 0, 1);
        tip("a at -10 b at 2", 1, 1);
        tip("a at 5 glued", 0, 1);
        tip("a at -4 glued b at -9 glued", -2, -2);
        due("6: level 0 as told", told("book a 10 1;pile a at 5 glued;").book(0, 5), 1);
    }

    private static void over() {
        due("12: beyond", told("book a 10 2;pile a at -4;").over(), 6);
        due("12: at the edge", told("book a 10 2;pile a at -10;").over(), 0);
        due("12: ahead of it", told("book a 10 2;pile a at -11;").over(), 0);
        due("12: the lower", told("book a 10 2;book b 1 1;pile a at -3 b at 2;").over(), 7);
        due("12: the farthest", told("book a 99 2;book b 1 1;pile a at 999 b at 2;").over(), 1098);
    }

    private static void lay() {
        EdgePile x = told("book a 10 2;book b 10 1;book c 9 1;");
        due("13: lay", x.lay(1, -999, false), 0);
        due("13: again", x.lay(1, 5, false), -1);
        due("13: place", x.lay(0, 1000, false), -1);
        due("13: place", x.lay(0, -1000, true), -1);
        due("13: book", x.lay(3, 0, true), -1);
        due("13: book", x.lay(-1, 0, true), -1);
        due("13: nothing happened", x.count(1), 1);
        due("13: nothing to undo", x.count(6), 1);
        due("13: lay", x.lay(0, 999, true), 1);
        due("13: its place", x.book(0, 4), 999);
        due("13: glued", x.book(0, 5), 1);
        due("13: lay", x.lay(2, 0, false), 2);
        due("13: not glued", x.book(2, 5), 0);
        due("13: no more", x.lay(0, 0, false), -1);
    }

    private static void lift() {
        EdgePile x = told("book a 10 2;book b 10 1;fly 3 on b 1;pile b at 1 a at 2;");
        due("14: lift", x.lift(), 0);
        due("14: levels", x.count(1), 1);
        due("14: FLIES", x.count(4), 1);
        due("14: lift", x.lift(), 1);
        due("14: FLIES", x.count(4), 0);
        due("14: none", x.lift(), -1);
        due("14: nothing happened", x.count(6), 2);
    }

    private static void move() {
        EdgePile x = told("book a 10 2;book b 10 1;book c 9 1;pile a at -900 b at 0 c at 990;");
        yes("15: move", x.move(1, 9));
        due("15: a", x.book(0, 4), -900);
        due("15: b", x.book(1, 4), 9);
        due("15: c", x.book(2, 4), 999);
        no("15: too far", x.move(1, 1));
        no("15: too far", x.move(2, 1));
        yes("15: the whole way", x.move(2, -1998));
        no("15: too far", x.move(2, -1));
        no("15: too far for one", x.move(0, -1));
        yes("15: far", x.move(0, 100));
        no("15: no level", x.move(3, 0));
        no("15: no level", x.move(-1, 0));
        no("15: wraps", x.move(0, Integer.MAX_VALUE));
        no("15: wraps", x.move(0, Integer.MIN_VALUE));
        due("15: nothing happened", x.book(0, 4), -800);
        due("15: things", x.count(6), 3);
        yes("15: by 0", x.move(0, 0));
        due("15: things", x.count(6), 4);
    }

    private static void undo() {
        EdgePile x = told("book a 10 2;book b 10 1;pile a at -9;");
        no("16: none", x.undo());
        x.lay(1, 5, true);
        x.move(0, -3);
        x.lift();
        due("16: three", x.count(6), 3);
        yes("16: undo lift", x.undo());
        due("16: b lies", x.book(1, 3), 1);
        due("16: there", x.book(1, 4), 2);
        due("16: glued", x.book(1, 5), 1);
        yes("16: undo move", x.undo());
        due("16: a back", x.book(0, 4), -9);
        due("16: b back", x.book(1, 4), 5);
        yes("16: undo lay", x.undo());
        due("16: b is off", x.book(1, 3), -2);
        no("16: none", x.undo());
        for (int i = 0; i < 70; i++) yes("16: move", x.move(0, i % 2 == 0 ? 20 : -19));
        due("16: 50", x.count(6), 50);
        due("16: far", x.book(0, 4), 26);
        for (int i = 0; i < 50; i++) yes("16: undo", x.undo());
        no("16: no more", x.undo());
        due("16: as after 20", x.book(0, 4), 1);
        due("16: none left", x.count(6), 0);
    }

    private static void bears() {
        EdgePile x = told("book a 10 1;book b 10 1;pile a at -9;");
        due("17: right end", x.bears(0, 10), 4);
        due("18: right end", x.holds(0, 10), 0);
        due("17: over the edge", x.bears(0, 9), 9999);
        due("17: at", x.bears(0, 11), -1);
        due("17: at", x.bears(0, -1), -1);
        due("18: at", x.holds(0, 11), -1);
        due("18: at", x.holds(0, -1), -1);
        due("17: not in the PILE", x.bears(1, 0), -1);
        due("18: not in the PILE", x.holds(1, 0), -1);
        due("17: no BOOK", x.bears(2, 0), -1);
        due("18: no BOOK", x.holds(-1, 0), -1);
        x.move(0, 5);
        due("18: one to hold it", x.holds(0, 0), 1);
        due("17: any", x.bears(0, 0), 9999);
        due("18: over the edge", x.holds(0, 4), -2);
        due("17: over the edge", x.bears(0, 4), -2);
        x.move(0, 5);
        due("18: does not LIE", x.holds(0, 0), -2);
        due("17: looked at first", x.bears(1, 0), -1);
    }

    private static void bearsFar() {
        String heavy = "book a 99 1;book b 99 1;book c 99 1;heavy a=99;heavy b=99;heavy c=99;";
        due("18: 4801.5", told(heavy + "pile a at -1;").holds(0, 0), 4802);
        due("18: twice", told(heavy + "pile a at -1 b at -1 glued;").holds(0, 0), 9603);
        due("18: too much", told(heavy + "pile a at -1 b at -1 glued c at -1 glued;").holds(0, 0), -2);
        due("17: too much", told(heavy + "pile a at -1 b at -1 glued c at -1 glued;").bears(0, 0), -2);
        // Level 0 needs 1 at least (POINT 1 else), level 1 is not touched by a FLY on a.
        EdgePile x = told("book a 10 1;book b 10 1;table 50;pile a at -4 b at -4;");
        due("18: on the lower", x.holds(0, 0), 1);
        due("18: on the upper", x.holds(1, 0), 1);
        due("17: on the upper", x.bears(1, 0), 9999);
        x.move(1, -3);
        // b from -7 on: a FLY at its left end draws POINT 1 to the left of a's left end -4: (-2-7f)/(1+f) >= -4.
        due("17: upper bound", x.bears(1, 0), 0);
        due("18: stands without", x.holds(1, 0), 0);
        due("17: where it rests", x.bears(1, 3), 9999);
        x.move(1, 11);
        due("17: the upper falls", x.bears(0, 0), -2);
        EdgePile y = told("book a 10 1;book b 10 1;table 50;pile a at -3 b at -7;");
        // POINTS: a 2, b -2, both 0. At b's left end -7: level 1 needs -2-7f >= -3(1+f): f <= 0.25.
        due("17: quarter", y.bears(1, 0), 0);
        due("18: quarter", y.holds(1, 0), 0);
        y.move(0, 1);
        // Both 1: level 0 needs 2-6f <= 0, so 1 at least; level 1 needs -1-6f >= -2(1+f), so 0 at most.
        due("17: between 1 and 0", y.bears(1, 0), -2);
        due("18: between 1 and 0", y.holds(1, 0), -2);
        // At a's left end -2 it is 1 or more, and never too much.
        due("18: on a", y.holds(0, 0), 1);
        due("17: on a", y.bears(0, 0), 9999);
        EdgePile z = told("book a 20 2;book b 10 6;table 50;pile a at -8 b at -7;");
        // Twice POINT * LOAD: 2*4 + 6*-4. A FLY on b at 10 (3): 0 needs -8+3f <= 0, 1 needs -12+3f <= 12(6+f).
        due("17: 8 by 3", z.bears(1, 10), 2);
        due("18: with 0", z.holds(1, 10), 0);
    }

    private static void pushed() {
        EdgePile x = told("book a 10 1;book b 10 1;table 50;pile a at -10 b at -10;");
        due("19: OVER", x.pushed(0), 7);
        due("19: stands", x.pushed(1), 1);
        due("19: others", x.pushed(2), -1);
        due("19: others", x.pushed(-1), -1);
        due("19: nothing happened", x.book(1, 4), -10);
        due("19: nothing to undo", x.count(6), 0);
        EdgePile g = told("book a 10 1;book b 10 1;table 50;pile a at -10 b at -10 glued;");
        due("19: glued goes 200", g.pushed(0), 200);
        due("19: falls then", g.pushed(1), 0);
        EdgePile f = told("book a 10 1;book b 10 1;table 50;pile a at -10 b at -4;");
        due("19: does not stand: 0, then a by 2", f.pushed(0), 8);
        due("19: does not stand", f.pushed(1), 0);
        due("19: 200 at most", told("book a 10 1;table 999;pile a at -500;").pushed(0), 0);
        due("19: by 199", told("book a 99 1;table 999;pile a at -249;").pushed(0), 49);
        due("19: by 200", told("book a 99 1;table 999;pile a at -250;").pushed(0), 49);
        due("19: by no more", told("book a 99 1;table 999;pile a at -251;").pushed(0), 48);
        EdgePile gap = told("book a 10 1;fly 5 on a 0;heavy a = if place<0-2 then 1 else if place<0-1 then 99 else 1;"
            + "pile a at -10;");
        due("19: all lesser ones too", gap.pushed(0), 7);
        due("21: all between", gap.slides(0, true), 7);
        EdgePile l = told("book a 10 1;book b 10 1;heavy b = place+12;table 50;pile a at -10 b at -10;");
        due("19: b at -5 weighs 7, then less room", l.pushed(0), 5);
    }

    private static void takings() {
        due("20: two", told("book a 10 1;book b 10 1;pile a at -10 b at -10;").takings(), 2);
        due("20: at the edge", told("book a 10 1;book b 10 1;pile a at -10 b at -5;").takings(), 2);
        due("20: falls now", told("book a 10 1;book b 10 1;pile a at -10 b at -4;").takings(), 0);
        due("20: glue goes", told("book a 10 1;book b 10 1;pile a at -10 b at -4 glued;").takings(), 1);
        due("20: six", told("book a 10 1;book b 10 1;book c 10 1;pile a at -10 b at -10 c at -10;").takings(), 6);
        String six = "";
        String pile = "pile";
        for (String name : "a b c d e f".split(" ")) {
            six += "book " + name + " 10 1;";
            pile += " " + name + " at -10";
        }
        due("20: all orders of six", told(six + pile + ";").takings(), 720);
        due("20: none in the PILE", told(six).takings(), 1);
        // c hangs on b's weight: b glued to a, c glued to b; a may go only last.
        due("20: in turn", told("book a 20 9;book b 10 1;book c 10 1;pile a at -20 b at -2 glued c at 2 glued;")
            .takings(), 1);
    }

    private static void slides() {
        EdgePile x = told("book a 10 1;book b 10 1;table 50;pile a at -20 b at -20;");
        due("21: top right", x.slides(1, true), 5);
        due("21: top left", x.slides(1, false), -5);
        due("21: both right", x.slides(0, true), 15);
        due("21: both left", x.slides(0, false), -35);
        due("21: no level", x.slides(2, true), -1000);
        due("21: no level", x.slides(-1, false), -1000);
        due("21: nothing happened", x.book(0, 4), -20);
        x.move(1, 6);
        due("21: does not stand", x.slides(0, true), -2000);
        due("21: does not stand", x.slides(1, false), -2000);
        EdgePile w = told("book a 10 1;table 999;pile a at -500;");
        due("21: 200 at most", w.slides(0, true), 200);
        due("21: 200 at most", w.slides(0, false), -200);
        due("21: by 199", told("book a 10 1;table 999;pile a at -204;").slides(0, true), 199);
        due("21: by 200", told("book a 10 1;table 999;pile a at -205;").slides(0, true), 200);
        due("21: by -199", told("book a 10 1;table 300;pile a at -106;").slides(0, false), -199);
        EdgePile z = told("book a 10 1;pile a at -5;");
        due("21: 0", z.slides(0, true), 0);
        due("21: the level below counts", told("book a 10 1;book b 10 1;pile a at -6 b at -6;").slides(1, true), 2);
    }

    private static void out() {
        EdgePile x = told("book a 10 1;book b 10 1;pile a at -10 b at -4 glued;");
        due("22: the lower", x.out(0), 0);
        due("22: the upper", x.out(1), 1);
        due("22: no level", x.out(2), -1);
        due("22: no level", x.out(-1), -1);
        due("22: nothing happened", x.count(1), 2);
        EdgePile y = told("book a 10 1;book b 10 1;book c 10 1;pile a at -10 b at -4 c at -4;");
        due("22: c on a falls", y.out(1), 0);
        due("22: b still falls", y.out(2), 0);
        due("22: on the TABLE", y.out(0), 0);
        EdgePile z = told("book a 10 1;book b 10 1;book c 10 1;pile a at -10 b at -4 c at -8 glued;");
        due("22: falls now, not then", z.out(1), 1);
        EdgePile glued = told("book a 10 5;book b 10 1;book c 10 1;pile a at -10 b at -10 c at 0 glued;");
        due("22: glue above stays", glued.out(0), 1);
        due("22: glue of one taken out goes", glued.out(1), 0);
        EdgePile law = told("book a 10 1;book b 10 1;heavy b = 1+level*50;pile a at -8 b at -4 glued;");
        due("22: another level, another weight", law.stands() ? 1 : 0, 0);
        due("22: alone", law.out(1), 1);
    }

    private static void reach() {
        EdgePile x = told("book a 10 2;book b 10 3;book c 12 4;heavy a = 50;fly 9 on a 1;pile a at 5 glued;");
        due("23: 1", x.reach(1, false), 5);
        due("23: 1", x.reach(1, true), 1);
        due("23: 12", x.reach(12, false), 7);
        due("23: 21", x.reach(21, false), 8);
        due("23: 123", x.reach(123, false), 583);
        due("23: 123", x.reach(123, true), 63);
        due("23: twice", x.reach(121, false), -1);
        due("23: no BOOK", x.reach(14, true), -1);
        due("23: 0", x.reach(10, false), -1);
        due("23: no digits", x.reach(0, true), -1);
        due("23: below 0", x.reach(-12, false), -1);
        due("23: too many", x.reach(1231, false), -1);
        due("23: the most", x.reach(Integer.MAX_VALUE, false), -1);
        due("23: the least", x.reach(Integer.MIN_VALUE, true), -1);
        EdgePile six = told("book a 99 19;book b 97 17;book c 89 13;book d 83 11;book e 79 7;book f 73 20;");
        due("23: six", six.reach(654321, true), new PlainReach(six).below(654321));
        due("23: six", six.reach(654321, false), new PlainReach(six).above(654321));
        due("23: seven", six.reach(1654321, false), -1);
    }

    /** Six terms as one fraction of BigIntegers. */
    private record PlainReach(EdgePile x) {
        java.math.BigInteger[] parts(int order) {
            java.math.BigInteger above = java.math.BigInteger.ZERO;
            java.math.BigInteger below = java.math.BigInteger.ONE;
            long heavy = 0;
            for (int rest = order; rest > 0; rest /= 10) {
                int book = rest % 10 - 1;
                heavy += x.book(book, 1);
                java.math.BigInteger under = java.math.BigInteger.valueOf(2 * heavy);
                above = above.multiply(under).add(below.multiply(
                    java.math.BigInteger.valueOf((long) x.book(book, 0) * x.book(book, 1))));
                below = below.multiply(under);
            }
            java.math.BigInteger common = above.gcd(below);
            return new java.math.BigInteger[] {above.divide(common), below.divide(common)};
        }

        long above(int order) {
            return parts(order)[0].longValueExact();
        }

        long below(int order) {
            return parts(order)[1].longValueExact();
        }
    }

    private static void bestOrder() {
        EdgePile x = told("book a 10 2;book b 10 3;book c 12 4;");
        due("24: one", x.bestOrder(1), 1);
        due("24: one", x.bestOrder(4), 3);
        due("24: 8 is more than 7", x.bestOrder(3), 21);
        due("24: 32 by 3 both", x.bestOrder(7), 231);
        due("24: none", x.bestOrder(0), -1);
        due("24: no such BOOK", x.bestOrder(8), -1);
        due("24: no such BOOK", x.bestOrder(9), -1);
        due("24: below 0", x.bestOrder(-1), -1);
        due("24: the most", x.bestOrder(Integer.MAX_VALUE), -1);
        String alike = "";
        for (String name : "a b c d e f".split(" ")) alike += "book " + name + " 10 3;";
        due("24: all alike", told(alike).bestOrder(63), 123456);
        due("24: some alike", told(alike).bestOrder(0b101010), 246);
        due("24: too many", told(alike).bestOrder(64), -1);
    }

    private static void alike() {
        EdgePile x = new EdgePile();
        due("25: 1", x.alike(1, false), 1);
        due("25: 1", x.alike(1, true), 2);
        due("25: 3", x.alike(3, false), 11);
        due("25: 3", x.alike(3, true), 12);
        due("25: 5", x.alike(5, false), 137);
        due("25: 5", x.alike(5, true), 120);
        due("25: 40", x.alike(40, false), 2078178381193813L);
        due("25: 40", x.alike(40, true), 971442083102400L);
        due("25: 0", x.alike(0, false), -1);
        due("25: 41", x.alike(41, true), -1);
        due("25: the least", x.alike(Integer.MIN_VALUE, false), -1);
    }

    private static void needed() {
        EdgePile x = new EdgePile();
        due("26: 0", x.needed(0, 99), 1);
        due("26: a half", x.needed(1, 2), 1);
        due("26: more than a half", x.needed(50, 99), 2);
        due("26: just", x.needed(25, 24), 4);
        due("26: more", x.needed(26, 24), 5);
        due("26: 3 by 4", x.needed(3, 4), 2);
        due("26: 76 by 99", x.needed(76, 99), 3);
        due("26: 2", x.needed(2, 1), 31);
        due("26: 2.139", x.needed(77, 36), 40);
        due("26: 2.14", x.needed(15, 7), -2);
        due("26: 99", x.needed(99, 1), -2);
        due("26: a", x.needed(-1, 1), -1);
        due("26: a", x.needed(100, 1), -1);
        due("26: b", x.needed(1, 0), -1);
        due("26: b", x.needed(1, 100), -1);
    }

    private static void seeAndForget() {
        EdgePile x = told("book a 4 1;pile a at -3;");
        for (int i = 0; i < 6; i++) due("27: see", x.see(true), i);
        due("27: no more", x.see(false), -1);
        due("27: six", x.count(7), 6);
        due("27: nothing happened", x.fits(1, 6), 1);
        due("28: forget", x.forget(), 6);
        due("28: forget", x.forget(), 0);
        due("28: none", x.count(7), 0);
        due("28: none KNOWN", x.fits(1, 1), -1);
        due("27: see", x.see(false), 0);
        due("27: not as it was", x.fits(1, 1), 0);
        x.move(0, 3);
        due("27: it is the PILE of then", x.fits(1, 1), 0);
    }

    private static void fits() {
        EdgePile x = told("book a 4 1;book b 4 9;heavy a = 99;table 9;pile a at -3 b at -1;");
        due("29: none KNOWN", x.fits(3, 0), 9);
        x.see(true);
        due("29: b not more than a", x.fits(3, 1), 6);
        due("29: most 1", x.fits(1, 1), 1);
        due("29: most 6", x.fits(6, 1), 21);
        x.forget();
        x.see(false);
        due("29: b more than a", x.fits(3, 1), 3);
        due("29: the first 0", x.fits(3, 0), 9);
        x.see(true);
        due("29: both", x.fits(3, 2), 0);
        due("29: most 0", x.fits(0, 1), -1);
        due("29: most 7", x.fits(7, 1), -1);
        due("29: k -1", x.fits(3, -1), -1);
        due("29: k 3", x.fits(3, 3), -1);
        EdgePile fly = told("book a 4 1;book b 4 1;book c 1 1;fly 1 on a 4;fly 9 on c 1;table 9;pile a at -3 b at -1;");
        fly.see(true);
        due("29: b less than a, c any", fly.fits(6, 1), 90);
        EdgePile ends = told("book a 10 1;book b 10 1;table 50;pile a at -55;");
        ends.see(true);
        due("29: at the left end", ends.fits(1, 1), 1);
        ends.move(0, 50);
        ends.see(true);
        due("29: at the right end", ends.fits(1, 2), 1);
        ends.move(0, 1);
        ends.see(false);
        ends.move(0, -52);
        ends.see(false);
        due("29: beyond both", ends.fits(1, 4), 1);
        EdgePile glue = told("book a 4 1;book b 4 1;table 9;pile a at -4 b at 1 glued;");
        glue.see(true);
        due("29: glued: 3b not more than 2a", glue.fits(3, 1), 3);
        glue.lift();
        glue.lay(1, 1, false);
        glue.see(false);
        due("29: falls without glue", glue.fits(3, 2), 3);
    }

    private static void span() {
        EdgePile x = told("book a 4 1;book b 4 1;book c 9 1;table 9;pile a at -3 b at -1;");
        x.see(false);
        due("30: a", x.span(3, 1, 0), 12);
        due("30: b", x.span(3, 1, 1), 23);
        due("30: c", x.span(3, 1, 2), 13);
        due("30: none KNOWN", x.span(5, 0, 1), 15);
        due("30: one", x.span(2, 1, 1), 22);
        due("30: none FIT", x.span(1, 1, 0), -2);
        due("30: none FIT, c", x.span(1, 1, 2), -2);
        due("30: book", x.span(1, 1, 3), -1);
        due("30: book", x.span(3, 1, -1), -1);
        due("30: most", x.span(7, 1, 0), -1);
        due("30: most", x.span(0, 1, 0), -1);
        due("30: k", x.span(3, 2, 0), -1);
        due("30: k", x.span(3, -1, 0), -1);
    }

    private static void holdAndRestore() {
        EdgePile x = told("book a 10 2;book b 10 1;pile a at -9;");
        no("31: slot", x.hold(-1));
        no("31: slot", x.hold(3));
        no("32: nothing held", x.restore(0));
        yes("31: hold", x.hold(0));
        x.lay(1, 5, true);
        yes("31: hold", x.hold(2));
        x.move(0, 7);
        due("33: two slots", x.count(8), 2);
        no("32: nothing held", x.restore(1));
        no("32: slot", x.restore(3));
        no("32: slot", x.restore(-1));
        due("32: nothing happened", x.count(6), 2);
        x.see(true);
        yes("32: restore", x.restore(2));
        due("32: a", x.book(0, 4), -9);
        due("32: b", x.book(1, 4), 5);
        due("32: glued", x.book(1, 5), 1);
        no("32: nothing to undo", x.undo());
        due("32: SEEN stays", x.count(7), 1);
        x.lift();
        yes("32: undo", x.undo());
        yes("32: restore", x.restore(0));
        due("32: one level", x.count(1), 1);
        x.move(0, 1);
        yes("32: it stays there", x.restore(0));
        due("32: as held", x.book(0, 4), -9);
        x.lift();
        yes("31: hold none", x.hold(0));
        yes("32: restore", x.restore(2));
        yes("32: restore none", x.restore(0));
        due("32: no levels", x.count(1), 0);
        due("33: two slots", x.count(8), 2);
    }

    private static void count() {
        EdgePile x = told("book a 10 2;book b 10 1;table 77;fly 1 on a 1;fly 0 on b 1;fly 2 on a 2;pile a at 1;");
        x.lay(1, 1, false);
        x.lift();
        x.see(true);
        x.hold(1);
        x.feed(0, 0, 0, 0, 0);
        int[] counts = {2, 1, 77, 3, 2, 20, 2, 1, 1};
        for (int i = 0; i < counts.length; i++) due("33: count " + i, x.count(i), counts[i]);
        due("33: others", x.count(9), -1);
        due("33: others", x.count(-1), -1);
        due("33: others", x.count(Integer.MIN_VALUE), -1);
    }
}
