import java.util.ArrayList;
import java.util.List;

/** The boundary cases of the document's part I and of promises 1 to 5, sentence by sentence. */
public final class TextEdgesTest extends Checks {
    private static final String A = "book a 10 2;";
    private static final String SIX = "book a 9 1;book b 9 2;book c 9 3;book d 9 4;book e 9 5;book f 9 6;";

    public static void main(String[] args) {
        newObject();
        textIsFull();
        blanks();
        everyByteInALaw();
        longestTokens();
        names();
        words();
        ints();
        noTokens();
        everyTokenAtEveryPlace();
        cutAtEveryToken();
        books();
        heavy();
        table();
        pile();
        flies();
        firstByPlace();
        leastOfOnePlace();
        roomForTokens();
        roomForTells();
        roomForIfs();
        roomForParentheses();
        shapeGoesAheadOfMeaning();
        twice();
        unknownNames();
        wrongNumbers();
        faultChangesNothing();
        textInPlaceOfTheOneAhead();
        textsInARow();
        feed();
        feedBytes();
        back();
        read();
        place();
        finish();
    }

    private static String blank(int n) {
        return " ".repeat(n);
    }

    private static void newObject() {
        says("`EdgePile()`: Nothing is told.");
        EdgePile x = new EdgePile();
        int[] counts = {0, 0, 100, 0, 0, 0, 0, 0, 0};
        for (int i = 0; i < counts.length; i++) due("1: count " + i, x.count(i), counts[i]);
        for (int what = 0; what <= 5; what++) due("1: book " + what, x.book(0, what), -10000);
        due("1: place", x.place(), -1);
        due("1: level", x.level(0), -1);
        due("1: load", x.load(0), -1);
        due("1: point", x.point(0, true), -1000000);
        yes("1: stands", x.stands());
        due("1: tips", x.tips(1), -2);
        due("1: over", x.over(), 0);
        due("1: lay", x.lay(0, 0, false), -1);
        due("1: lift", x.lift(), -1);
        no("1: move", x.move(0, 0));
        no("1: undo", x.undo());
        due("1: bears", x.bears(0, 0), -1);
        due("1: holds", x.holds(0, 0), -1);
        due("1: slides", x.slides(0, false), -1000);
        due("1: out", x.out(0), -1);
        due("1: reach", x.reach(1, true), -1);
        due("1: bestOrder", x.bestOrder(1), -1);
        due("1: fits", x.fits(1, 1), -1);
        due("1: span", x.span(1, 0, 0), -1);
        due("1: forget", x.forget(), 0);
        for (int slot = 0; slot < 3; slot++) no("1: restore " + slot, x.restore(slot));
    }

    private static void textIsFull() {
        says("A TEXT has 2,000 bytes at most.");
        due("2000 bytes, the last one counts", told(blank(1992) + "table 7;").count(2), 7);
        faultAt(1, 1999, blank(1999) + "#");
        faultAt(1, 2000, blank(1993) + "table 7");
        faultAt(1, 1999, blank(1992) + "table 7");
        EdgePile x = new EdgePile();
        Texts.onto(x, blank(1992) + "table 7;");
        due("no 2001st", x.feed(-1, -1, -1, -1, -1), -1);
        due("as if it had not been fed", x.read(), 0);
        due("the text", x.count(2), 7);
    }

    private static void blanks() {
        says("with blanks (9, 10, 13, 32) between or not");
        for (int b = 0; b < 256; b++) {
            String text = "table" + (char) b + "7;";
            boolean between = b == 9 || b == 10 || b == 13 || b == 32;
            boolean letter = b >= 'a' && b <= 'z';
            boolean digit = b >= '0' && b <= '9';
            if (between || digit) fine(text);
            else faultAt(1, letter ? 0 : 5, text);
        }
        fine("\t\n\r \t\n\r ");
        fine("\ttable\n5\r; ");
        fine("table5;table6;");
        fault(1, "table 5 ^6;");
        fault(1, "^ta ble 5;");
    }

    /** Behind "heavy a=2" and ahead of "3;" only a digit, or a sign that reckons, lets the text go on. */
    private static void everyByteInALaw() {
        says("SIGNS ; = + - * / < ( )");
        String ahead = A + "heavy a=2";
        int at = ahead.length();
        for (int b = 0; b < 256; b++) {
            String text = ahead + (char) b + "3;";
            if ("+-*/0123456789".indexOf(b) >= 0) fine(text);
            else faultAt(1, "\t\n\r ;".indexOf(b) >= 0 ? at + 1 : at, text);
        }
        fine(A + "heavy a=if(1)<2then3else4;");
        fine(A + "pile a at-9;");
    }

    private static void longestTokens() {
        says("TOKENS, the longest that can be");
        due("12 is one INT", told("table 12;").count(2), 12);
        EdgePile x = told("book ab 1 1;book a 2 1;book b 3 1;");
        due("ab is one NAME", x.count(0), 3);
        due("ab", x.book(0, 0), 1);
        due("a NAME ends at a digit", told("book a12 3;").book(0, 0), 12);
        due("an INT ends at a letter", told("book a 1 1;pile a at 5glued;").book(0, 5), 1);
        fine(A + "heavy a=if1<2then3else4;");
        fault(1, "^booka 1 1;");
        fault(1, A + "heavy a=^iflong<2 then 3 else 4;");
        fault(1, A + "pile a ^ataglued 5;");
    }

    private static void names() {
        says("NAMES (letters a .. z, 8 at most, none of the words in quotes)");
        fine("book a 1 1;book z 1 1;");
        fine("book abcdefgh 1 1;book zzzzzzzz 1 1;book zzzzzzz 1 1;");
        fault(1, "book ^abcdefghi 1 1;");
        fault(1, "book ^zzzzzzzzz 1 1;");
        fault(1, "book ^" + "a".repeat(1000) + " 1 1;");
        for (char sign : "`{@AZ[_".toCharArray()) {
            fault(1, "book ^" + sign + " 1 1;");
            fault(1, "book a^" + sign + " 1 1;");
        }
        EdgePile x = told("book aaaaaaaa 1 1;book aaaaaaab 2 1;book baaaaaaa 3 1;book aaaaaaa 4 1;pile aaaaaaa at 0;");
        due("8 letters are told apart", x.level(0), 3);
        fault(3, "book abcdefgh 1 1;book ^abcdefgh 1 1;");
    }

    private static void words() {
        says("none of the words in quotes");
        for (String word : PlainPile.WORDS) {
            fault(1, "book ^" + word + " 1 1;");
            fault(1, "heavy ^" + word + "=1;");
            fault(1, "fly 1 on ^" + word + " 1;");
            fault(1, "pile ^" + word + " at 1;");
            fine("book " + word + "x 1 1;");
            fine("book x" + word + " 1 1;");
            String shorter = word.substring(0, word.length() - 1);
            if (!PlainPile.WORDS.contains(shorter)) fine("book " + shorter + " 1 1;");
        }
        due("sixteen words", PlainPile.WORDS.size(), 16);
    }

    private static void ints() {
        says("INTS (1 to 4 digits)");
        due("1 digit", told("table 1;").count(2), 1);
        due("4 digits", told("table 0999;").count(2), 999);
        due("4 digits", told("table 0001;").count(2), 1);
        fault(1, "table ^00001;");
        fault(1, "table ^10000;");
        fault(1, "table ^" + "0".repeat(1500) + ";");
        fine(A + "heavy a=9999;");
        fault(1, A + "heavy a=^10000;");
        fault(1, A + "heavy a=1+^00000;");
        fault(1, A + "pile a at -^00001;");
    }

    private static void noTokens() {
        says("A longer one, all else, is no TOKEN.");
        fault(1, "^ninechars");
        fault(1, "^12345");
        fault(1, "table 5;^tabletabl");
        fault(1, "table 5; ^\u0000");
        fault(1, "table 5;\n^\u00ff");
        fault(1, "table 5;^>");
        faultAt(1, 8, "table 5;^");
        fault(1, "table 5;^,");
    }

    private static final String RICH = "book a 9 1 ; book b 8 2 ; heavy a = if told < ( long + 1 ) * 2 then above / 3 "
        + "else if level < 1 then 2 else place - 1 ; table 77 ; pile a at - 5 glued b at 6 ; fly 3 on b 4 ;";
    private static final String[] KINDS = {"book", "heavy", "if", "then", "else", "table", "pile", "at", "glued", "fly",
        "on", "long", "told", "level", "place", "above", "a", "7", ";", "=", "+", "-", "*", "/", "<", "(", ")",
        "abcdefghi", "12345", "#"};

    private static void everyTokenAtEveryPlace() {
        says("1 SYNTAX: a TOKEN, or what is none, with which no text goes on.");
        String[] tokens = RICH.split(" ");
        String ahead = "";
        for (int i = 0; i <= tokens.length; i++) {
            for (String kind : KINDS) {
                String rest = i < tokens.length ? String.join(" ", List.of(tokens).subList(i, tokens.length)) : "";
                sameAsPlain(ahead + kind);
                sameAsPlain(ahead + kind + " " + rest);
            }
            if (i < tokens.length) ahead += tokens[i] + " ";
        }
    }

    private static void sameAsPlain(String text) {
        EdgePile x = new EdgePile();
        PlainPile plain = new PlainPile();
        due("read of " + text, Texts.read(x, text), Texts.read(plain, text));
        due("place of " + text, x.place(), plain.place());
    }

    private static void cutAtEveryToken() {
        says("the first by its place (a byte; the text's end: its length)");
        String ahead = "";
        for (String token : RICH.split(" ")) {
            ahead += token + " ";
            if (token.equals(";")) fine(ahead);
            else faultAt(1, ahead.length(), ahead);
        }
        faultAt(1, 4, "book");
        faultAt(1, 5, "book ");
        faultAt(1, 24, "book" + blank(20));
    }

    private static void books() {
        says("BOOKS, 6 at most (a NAME, LONG 1 .. 99, WEIGHT 1 .. 20), numbered from 0 on as they stand.");
        EdgePile none = told("table 5;");
        due("no BOOK", none.count(0), 0);
        due("no BOOK 0", none.book(0, 0), -10000);
        EdgePile six = told(SIX);
        due("six", six.count(0), 6);
        for (int i = 0; i < 6; i++) due("BOOK " + i, six.book(i, 1), i + 1);
        due("no BOOK 6", six.book(6, 1), -10000);
        fault(5, "book a ^0 1;");
        due("LONG 1", told("book a 1 1;").book(0, 0), 1);
        due("LONG 99", told("book a 99 1;").book(0, 0), 99);
        fault(5, "book a ^100 1;");
        fault(5, "book a ^9999 1;");
        fault(5, "book a 1 ^0;");
        due("WEIGHT 1", told("book a 1 1;").book(0, 1), 1);
        due("WEIGHT 20", told("book a 1 20;").book(0, 1), 20);
        fault(5, "book a 1 ^21;");
        fault(5, "book a 1 ^9999;");
        due("zeros ahead", told("book a 0099 0020;").book(0, 0), 99);
    }

    private static void heavy() {
        says("HEAVY of a BOOK: a law (told, if there is none; the last one).");
        due("none", told("book a 10 7;pile a at 0;").book(0, 2), 7);
        due("one", told("book a 10 7;heavy a=9;pile a at 0;").book(0, 2), 9);
        due("the last one", told("book a 10 7;heavy a=9;heavy a=8;pile a at 0;").book(0, 2), 8);
        EdgePile x = told("book a 10 7;book b 10 5;heavy a=9;heavy b=3;heavy a=long;pile a at 0 b at 0;");
        due("the last one of a", x.book(0, 2), 10);
        due("the last one of b", x.book(1, 2), 3);
        due("of another text", Texts.read(x, "book a 10 7;pile a at 0;"), 0);
        due("none again", x.book(0, 2), 7);
    }

    private static void table() {
        says("TABLE: how wide, 1 .. 999 (100; the last one)");
        due("none told", told("").count(2), 100);
        due("none told", told(SIX).count(2), 100);
        fault(5, "table ^0;");
        due("1", told("table 1;").count(2), 1);
        due("999", told("table 999;").count(2), 999);
        fault(5, "table ^1000;");
        fault(5, "table ^9999;");
        due("the last one", told("table 5;table 7;").count(2), 7);
        fault(5, "table ^0;table 7;");
        fault(5, "table 7;table ^1000;");
        says("it lies from so much below 0 to 0, its edge.");
        yes("100: left end", told("book a 10 1;pile a at -105;").stands());
        no("100: beyond it", told("book a 10 1;pile a at -106;").stands());
        yes("1: left end", told("book a 2 1;table 1;pile a at -2;").stands());
        no("1: beyond it", told("book a 2 1;table 1;pile a at -3;").stands());
        yes("1: edge", told("book a 2 1;table 1;pile a at -1;").stands());
        no("1: beyond the edge", told("book a 2 1;table 1;pile a at 0;").stands());
        yes("999: as far as a PLACE", told("book a 99 1;table 999;pile a at -999;").stands());
        no("949: half a one too far", told("book a 99 1;table 949;pile a at -999;").stands());
        yes("950: as far as its middle", told("book a 99 1;table 950;pile a at -999;").stands());
    }

    private static void pile() {
        says("PILE: BOOKS from the lowest level (0) up, each once, at a PLACE (its left end) -999 .. 999");
        fault(5, A + "pile a at ^1000;");
        due("999", told(A + "pile a at 999;").book(0, 4), 999);
        due("-999", told(A + "pile a at -999;").book(0, 4), -999);
        fault(5, A + "pile a at -^1000;");
        fault(5, A + "pile a at ^9999;");
        due("0", told(A + "pile a at 0;").book(0, 4), 0);
        due("-0", told(A + "pile a at -0;").book(0, 4), 0);
        EdgePile six = told(SIX + "pile f at 1 e at 2 d at 3 c at 4 b at 5 a at 6;");
        due("six levels", six.count(1), 6);
        for (int i = 0; i < 6; i++) due("level " + i, six.level(i), 5 - i);
        says("glued to what is below it or not (none; the last one told)");
        due("no pile told", told(A).count(1), 0);
        due("a pile of none", told(A + "pile;").count(1), 0);
        due("the last one", told(A + "pile a at 1;pile a at 2;").book(0, 4), 2);
        due("the last one, of none", told(A + "pile a at 1;pile;").count(1), 0);
        EdgePile x = told(SIX + "pile a at 1 b at 2 c at 3;pile b at 4;");
        due("nothing of the one ahead", x.count(1), 1);
        due("nothing of the one ahead", x.level(0), 1);
        EdgePile glue = told(SIX + "pile a at 1 b at 2 glued c at 3;");
        for (int i = 0; i < 3; i++) due("glued " + i, glue.book(i, 5), i == 1 ? 1 : 0);
        due("not as in the one ahead", told(SIX + "pile a at 1 b at 2 glued;pile a at 1 b at 2;").book(1, 5), 0);
    }

    private static void flies() {
        says("FLIES, 6 at most: a WEIGHT 0 .. 99, a BOOK, how far from its left end (0 .. how LONG it is)");
        due("none", told(A).count(3), 0);
        EdgePile six = told(A + "pile a at 0;" + "fly 7 on a 1;".repeat(6));
        due("six", six.count(3), 6);
        due("six", six.load(0), 44);
        due("0", told(A + "pile a at 0;fly 0 on a 1;").load(0), 2);
        due("99", told(A + "pile a at 0;fly 99 on a 1;").load(0), 101);
        fault(5, A + "fly ^100 on a 1;");
        fault(5, A + "fly ^9999 on a 1;");
        due("at 0", told(A + "pile a at 0;fly 2 on a 0;").point(0, false), 5);
        due("at how LONG it is", told(A + "pile a at 0;fly 2 on a 10;").point(0, false), 15);
        fault(5, A + "fly 1 on a ^11;");
        fault(5, A + "fly 1 on a ^9999;");
        fine("book a 1 1;fly 1 on a 1;");
        fault(5, "book a 1 1;fly 1 on a ^2;");
        fine("book a 99 1;fly 1 on a 99;");
        fault(5, "book a 99 1;fly 1 on a ^100;");
        says("they sit there while it lies in the PILE.");
        EdgePile x = told("book a 10 1;book b 10 1;fly 5 on b 3;pile a at 0;");
        due("b is not there", x.load(0), 1);
        due("laid", x.lay(1, 0, false), 1);
        due("b is there", x.load(0), 7);
        due("where it sits", x.point(1, false), 10);
        yes("moved", x.move(1, 6));
        due("it sits there still", x.point(1, false), 28);
        due("by 3", x.point(1, true), 3);
        due("lifted", x.lift(), 1);
        due("b is not there", x.load(0), 1);
    }

    private static void firstByPlace() {
        says("FAULTS of a text, the first by its place");
        fault(1, "table ^;table ;");
        fault(2, SIX + "^book g 1 1;#");
        fault(1, SIX + "^#book g 1 1;");
        fault(2, SIX + "^book");
        fault(5, "table ^0;book a 0 0;");
        fault(3, A + "book ^a 0 21;pile b at 1000;");
        fault(4, "pile ^b at 1000;table 0;");
        fault(5, A + "pile a at ^1000 a at 1;");
        fault(5, A + "fly ^100 on b 99;");
        fault(4, A + "fly 99 on ^b 9999;");
        fault(5, "book a ^0 0;book a 1 1;");
    }

    private static void leastOfOnePlace() {
        says("of one place the least");
        String full = "pile;".repeat(200);
        fault(1, full + "^;");
        fault(1, full + "^a");
        fault(1, full + "^#");
        fault(1, full + "^abcdefghi");
        fault(2, full + "^book");
        fault(1, "book a 9 1;heavy a=((((((^);");
        fault(2, "book a 9 1;heavy a=((((((^();");
        fault(1, "book a 9 1;heavy a=((((((1^(;");
    }

    private static void roomForTokens() {
        says("2 ROOM: a 401st TOKEN");
        fine("pile;".repeat(200));
        fault(2, "pile;".repeat(200) + "^pile;");
        fault(2, "pile;".repeat(200) + "^pile");
        fine("table 5;" + "pile;".repeat(197) + "table 5;");
        fault(2, "table 5;".repeat(133) + "table ^5;");
        fault(1, "table 5;".repeat(133) + "table^");
        fault(2, "table 5;" + "pile;".repeat(198) + "table ^5;");
        fault(2, "pile;".repeat(199) + "table 5^;");
        fault(1, "pile;".repeat(199) + "table 5^");
        String law = "book a 1 1;heavy a=told" + "-1+2".repeat(96) + "-1;";
        fine(law + "pile;pile;");
        fault(2, law + "pile;pile;^pile;");
        fine("book a 1 1;heavy a=told" + "+1".repeat(195) + ";");
        fault(2, "book a 1 1;heavy a=told" + "+1".repeat(195) + ";^table");
        fault(2, "book a 1 1;heavy a=told" + "+1".repeat(195) + "+^1;");
        fault(2, "book a 1 1;heavy a=told" + "+1".repeat(195) + "+^(1);");
        fault(2, "book a 1 1;heavy a=told" + "+1".repeat(195) + "+^told;");
        fault(2, "book a 1 1;heavy a=(told" + "+1".repeat(195) + "^+1);");
        fault(2, "book a 1 1;heavy a=(told" + "+1".repeat(195) + "^*1);");
        fault(2, "book a 1 1;heavy a=(told" + "+1".repeat(195) + "^);");
    }

    private static void roomForTells() {
        says("a 7th book, fly (at its first TOKEN)");
        fine(SIX);
        fault(2, SIX + "^book g 9 1;");
        fault(2, SIX + "table 5; ^book");
        fault(2, SIX + "^book 5");
        fault(2, SIX + "^book a 9 1;");
        String flies = "fly 1 on a 0;".repeat(6);
        fine(SIX + flies);
        fault(2, SIX + flies + "^fly 1 on a 0;");
        fault(2, SIX + flies + "pile; ^fly");
        fault(2, SIX + flies + "^fly on");
        fault(2, flies + "^fly 1 on a 0;");
        fine(A + "pile a at 1;".repeat(9));
        fine(A + "heavy a=1;".repeat(9));
        fine("table 5;".repeat(9));
        EdgePile x = told(SIX + flies);
        due("six of each text", Texts.read(x, SIX + flies), 0);
    }

    private static void roomForIfs() {
        says("a 5th if (at it)");
        String choice = "if 2<1 then 1 else ";
        for (int ifs = 0; ifs <= 4; ifs++) {
            due(ifs + " ifs", told(A + "heavy a=" + choice.repeat(ifs) + "9;pile a at 0;").book(0, 2), 9);
        }
        fault(2, A + "heavy a=" + choice.repeat(4) + "^" + choice + "9;");
        fault(2, A + "heavy a=" + choice.repeat(4) + "^if");
        fault(2, A + "heavy a=" + choice.repeat(4) + "^if #");
        fault(1, A + "heavy a=" + choice.repeat(4) + "^then");
        fault(1, A + "heavy a=" + choice.repeat(4) + "1+^if");
    }

    private static void roomForParentheses() {
        says("a 7th ( within one another (at it)");
        due("6", told(A + "heavy a=((((((9))))));pile a at 0;").book(0, 2), 9);
        fault(2, A + "heavy a=((((((^(9)))))));");
        fault(2, A + "heavy a=((((((^(");
        fault(2, A + "heavy a=((((((1*^(9)))))));");
        fault(2, A + "heavy a=(((((1+(2-^(9)))))));");
        fine(A + "heavy a=((((((1)+(2)*(3))))));");
        fine(A + "heavy a=" + "(1)+".repeat(30) + "(2);");
        fine(A + "heavy a=((((((1))))))*((((((2))))));");
        fine(A + "heavy a=if((((((1))))))<((((((2))))))then((((((3))))))else((((((4))))));");
        for (String ahead : new String[] {"if ", "if 1<", "if 1<2 then ", "if 1<2 then 3 else "}) {
            fault(2, A + "heavy a=" + ahead + "((((((^(1");
        }
    }

    private static void shapeGoesAheadOfMeaning() {
        says("If there is none, likewise: 3 TWICE");
        fault(1, "book a 0 0;^;");
        fault(1, "pile b at 9999;table 5^");
        fault(2, "book a 0 1;" + "pile;".repeat(196) + "table 5;^book");
        fault(2, SIX.replace("book b", "book a") + "^book g 1 1;");
        fault(2, "heavy b=((((((^(1");
        fault(5, "book a ^0 1;" + "pile;".repeat(197));
    }

    private static void twice() {
        says("3 TWICE: a NAME told already; a BOOK again in one pile (at its NAME).");
        fault(3, A + "book ^a 10 2;");
        fine(A + "book aa 10 2;");
        fault(3, SIX.substring(0, 55) + "book ^a 9 9;");
        fault(3, SIX.substring(0, 55) + "book ^e 9 9;");
        fine(A + "pile a at 1;pile a at 1;");
        fault(3, A + "pile a at 1 ^a at 2;");
        fault(3, A + "pile a at 1 glued ^a at 2;");
        fault(3, SIX + "pile a at 1 b at 2 c at 3 d at 4 e at 5 f at 6 ^a at 7;");
        fault(3, SIX + "pile a at 1 b at 2 c at 3 d at 4 e at 5 f at 6 ^f at 7;");
        fault(3, SIX + "pile;pile a at 1 b at 2 ^b at 3;pile;");
    }

    private static void unknownNames() {
        says("4 NAME: no such BOOK told ahead.");
        fault(4, "heavy ^a=1;");
        fault(4, "heavy ^a=1;" + A);
        fine(A + "heavy a=1;");
        fault(4, "pile ^a at 1;");
        fault(4, "pile ^a at 1;" + A);
        fault(4, A + "pile a at 1 ^b at 2;book b 1 1;");
        fine(A + "pile a at 1;");
        fault(4, "fly 1 on ^a 1;" + A);
        fine(A + "fly 1 on a 1;");
        fault(4, A + "pile ^aa at 1;");
        fault(4, "book aa 1 1;pile ^a at 1;");
        EdgePile x = told(A);
        due("not of the text ahead", Texts.read(x, "pile a at 1;"), 4);
        due("its place", x.place(), 5);
        fault(4, SIX + "pile a at 1 b at 2 ^g at 3;");
        fault(4, SIX + "heavy ^g=1;");
        fault(4, SIX + "fly 1 on ^g 1;");
        for (int i = 0; i < 3; i++) due("six BOOKS", Texts.read(x, SIX), 0);
        for (String name : "b c d e f".split(" ")) {
            due("not of any text ahead", Texts.read(x, "book a 9 1;pile " + name + " at 1;"), 4);
            due("nor told twice", Texts.read(x, "book a 9 1;book " + name + " 9 1;pile " + name + " at 1;"), 0);
        }
    }

    private static void wrongNumbers() {
        says("5 WRONG (at the INT): a number not as told above.");
        fault(5, A + "pile a at -  ^1000 glued;");
        fault(5, A + "fly  ^0100 on a 1;");
        fault(5, "table  ^0000;");
        fine(A + "heavy a=0+9999*9999;");
        fault(5, SIX + "pile a at 1 b at 2 c at 3 d at 4 e at 5 f at ^1000;");
    }

    private static void faultChangesNothing() {
        says("A text with a FAULT changes nothing but the tape");
        String[] texts = {"#", "table 5;".repeat(133) + "table 5;", "book z 5 5;book z 5 5;", "table 9;pile z at 1;",
            "book z 5 5;heavy z=9;table 9;pile z at 1;fly 1 on z 1;table 0;"};
        int[] numbers = {1, 2, 3, 4, 5};
        for (int i = 0; i < texts.length; i++) {
            EdgePile x = told("book a 10 2;book b 8 3;heavy a=long+place;table 50;fly 4 on b 2;pile a at -9 b at -7;");
            x.move(0, 1);
            x.see(false);
            x.hold(2);
            due("FAULT", Texts.read(x, texts[i]), numbers[i]);
            due("the tape is empty", x.count(5), 0);
            int[] counts = {2, 2, 50, 1, 1, 0, 1, 1, 1};
            for (int what = 0; what < counts.length; what++) due("count " + what, x.count(what), counts[what]);
            due("LONG", x.book(1, 0), 8);
            due("the law", x.book(0, 2), 2);
            due("LOAD", x.load(0), 9);
            due("SEEN", x.fits(1, 1), 0);
            yes("undone", x.undo());
            due("the law", x.book(0, 2), 1);
            yes("held", x.restore(2));
            due("as held", x.book(0, 4), -8);
        }
    }

    private static void textInPlaceOfTheOneAhead() {
        says("else it is in place of the one ahead: the PILE as told, nothing can be undone, nothing is SEEN, SLOTS hold nothing.");
        EdgePile x = told(SIX + "heavy a=50;table 50;fly 4 on b 2;fly 5 on a 1;pile c at -9 d at -7 glued;");
        x.move(0, 1);
        x.see(true);
        for (int slot = 0; slot < 3; slot++) x.hold(slot);
        due("another text", Texts.read(x, "book a 3 4;book b 5 6;pile b at 1;"), 0);
        int[] counts = {2, 1, 100, 0, 0, 0, 0, 0, 0};
        for (int what = 0; what < counts.length; what++) due("count " + what, x.count(what), counts[what]);
        due("the PILE", x.level(0), 1);
        due("not glued", x.book(1, 5), 0);
        due("no BOOK 2", x.book(2, 0), -10000);
        no("nothing can be undone", x.undo());
        due("nothing is SEEN", x.fits(1, 1), -1);
        due("none forgotten", x.forget(), 0);
        for (int slot = 0; slot < 3; slot++) no("nothing is held", x.restore(slot));
        due("laid", x.lay(0, 0, false), 1);
        due("no law of the one ahead", x.book(0, 2), 4);
        due("no FLIES of the one ahead", x.load(0), 10);
        due("a third text", Texts.read(x, SIX + "pile a at -9 b at -9;"), 0);
        due("no law of the first one", x.book(0, 2), 1);
        due("no FLIES of the first one", x.load(0), 3);
        due("nor where they sat", x.point(0, false), -9);
        due("FLIES", x.count(4), 0);
        due("nor its TABLE", x.count(2), 100);
        due("a text of nothing", x.read(), 0);
        due("no BOOKS", x.count(0), 0);
        due("no levels", x.count(1), 0);
        no("nothing can be undone", x.undo());
    }

    /** Laws told in many texts, one behind the other, never run out of room, with or without a FAULT. */
    private static void textsInARow() {
        says("else it is in place of the one ahead");
        EdgePile x = new EdgePile();
        String law = "1+".repeat(150);
        for (int i = 0; i < 6; i++) {
            due("a text", Texts.read(x, "book a 1 1;heavy a=(" + law + "0)/2+" + i + ";pile a at 0;"), 0);
            due("its law", x.book(0, 2), 75 + i);
            due("a FAULT", Texts.read(x, "book a 1 1;heavy a=" + law + "0;table 0;"), 5);
            due("its law still", x.book(0, 2), 75 + i);
        }
    }

    private static void feed() {
        says("NONE, and nothing comes, if it would have more than 2,000.");
        EdgePile x = new EdgePile();
        for (int i = 1; i <= 99; i++) due("feed " + i, x.feed(0x20202020, 0x20202020, 0x20202020, 0x20202020, 0x20202020), 20 * i);
        due("to 2000", x.feed(0x20202020, 0x20202020, 0x20202020, 0x74616220, 0x2020203b), 2000);
        due("too many", x.feed(0, 0, 0, 0, 0), -1);
        due("nothing came", x.count(5), 2000);
        due("back to 1981", x.back(19), 1981);
        due("too many by 1", x.feed(0, 0, 0, 0, 0), -1);
        due("nothing came", x.count(5), 1981);
        due("back to 1980", x.back(1), 1980);
        due("just as many", x.feed(0x20202020, 0x20202020, 0x20202020, 0x7461626c, 0x6520373b), 2000);
        due("too many again", x.feed(0, 0, 0, 0, 0), -1);
        due("read", x.read(), 0);
        due("what came, and no more", x.count(2), 7);
        due("room again", x.feed(0, 0, 0, 0, 0), 20);
    }

    private static void feedBytes() {
        says("Twenty bytes, the highest of a first, come behind the tape: how many it has.");
        String text = "book abcdefg 98 17 ;";
        EdgePile x = new EdgePile();
        due("feed", x.feed(0x626f6f6b, 0x20616263, 0x64656667, 0x20393820, 0x3137203b), text.length());
        due("read", x.read(), 0);
        due("LONG", x.book(0, 0), 98);
        due("WEIGHT", x.book(0, 1), 17);
        for (int i = 0; i < 20; i++) {
            int[] n = {0x20202020, 0x20202020, 0x20202020, 0x20202020, 0x20202020};
            n[i / 4] ^= (0x20 ^ 0xff) << (24 - i % 4 * 8);
            due("feed", x.feed(n[0], n[1], n[2], n[3], n[4]), 20);
            due("byte 255", x.read(), 1);
            due("its place", x.place(), i);
        }
    }

    private static void back() {
        says("NONE, and nothing goes, if it has not so many, or n is below 0.");
        EdgePile x = new EdgePile();
        due("0 of none", x.back(0), 0);
        due("1 of none", x.back(1), -1);
        due("-1 of none", x.back(-1), -1);
        Texts.onto(x, "table 8;table 9;####");
        due("20", x.count(5), 20);
        for (int n : new int[] {21, 22, -1, -20, Integer.MAX_VALUE, Integer.MIN_VALUE}) due("back " + n, x.back(n), -1);
        due("nothing went", x.count(5), 20);
        due("0", x.back(0), 20);
        due("4", x.back(4), 16);
        due("17 of 16", x.back(17), -1);
        due("8", x.back(8), 8);
        due("read", x.read(), 0);
        due("the last ones went", x.count(2), 8);
        Texts.onto(x, "####################");
        due("all of them", x.back(20), 0);
        due("none left", x.back(1), -1);
        due("nothing to read", x.read(), 0);
    }

    private static void read() {
        says("The tape, which is empty then, is read: 0, or the number of its FAULT.");
        List<String> texts = new ArrayList<>(List.of("", "table 0;", "pile a at 1;", A + A, "#", "pile;".repeat(200) + "pile"));
        int[] numbers = {0, 5, 4, 3, 1, 2};
        EdgePile x = new EdgePile();
        for (int i = 0; i < numbers.length; i++) {
            due("read", Texts.read(x, texts.get(i)), numbers[i]);
            due("empty then", x.count(5), 0);
            due("nothing to go", x.back(1), -1);
        }
        due("of nothing", x.read(), 0);
    }

    private static void place() {
        says("The byte of the latest read()'s FAULT; NONE without.");
        EdgePile x = new EdgePile();
        due("without a read", x.place(), -1);
        due("FAULT", Texts.read(x, "#"), 1);
        due("at 0", x.place(), 0);
        due("FAULT", Texts.read(x, "table 0;"), 5);
        due("the latest", x.place(), 6);
        due("feed", x.feed(0x20202020, 0x20202020, 0x20202020, 0x20202020, 0x20202020), 20);
        due("not by feed", x.place(), 6);
        due("no FAULT", x.read(), 0);
        due("NONE", x.place(), -1);
        due("FAULT", Texts.read(x, blank(7) + "table"), 1);
        due("the text's end", x.place(), 12);
        due("no FAULT", x.read(), 0);
        due("NONE", x.place(), -1);
    }
}
