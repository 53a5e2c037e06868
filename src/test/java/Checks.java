import java.io.IOException;
import java.io.UncheckedIOException;
import java.nio.file.Files;
import java.nio.file.Path;

/** What the tests by hand-reckoned answers share: answers are counted, wrong ones printed. */
abstract class Checks {
    private static final String DOCUMENT = document();
    private static int wrong = 0;
    private static int asked = 0;
    private static String sentence = "";

    private static String document() {
        Path doc = Path.of(System.getProperty("project.root", "."), "../shared/DOC.md");
        try {
            return Files.exists(doc) ? Files.readString(doc).replaceAll("\\s+", " ") : "";
        } catch (IOException e) {
            throw new UncheckedIOException(e);
        }
    }

    /** The sentence that the next answers are asked for; it must stand in the document word by word. */
    static void says(String quote) {
        sentence = quote;
        if (!DOCUMENT.isEmpty() && !DOCUMENT.contains(quote)) {
            wrong++;
            System.out.println("not in the document: " + quote);
        }
    }

    static void due(String what, long got, long want) {
        asked++;
        if (got != want) {
            wrong++;
            System.out.println(what + ": answered " + got + ", due is " + want
                + (sentence.isEmpty() ? "" : " (\"" + sentence + "\")"));
        }
    }

    static void yes(String what, boolean got) {
        due(what, got ? 1 : 0, 1);
    }

    static void no(String what, boolean got) {
        due(what, got ? 1 : 0, 0);
    }

    static EdgePile told(String text) {
        EdgePile x = new EdgePile();
        due("read of " + text, Texts.read(x, text), 0);
        return x;
    }

    /** The text is read on a new object; a ^ stands ahead of the byte where its FAULT is. */
    static void fault(int number, String marked) {
        int place = marked.indexOf('^');
        faultAt(number, place, place < 0 ? marked : marked.substring(0, place) + marked.substring(place + 1));
    }

    static void faultAt(int number, int place, String text) {
        EdgePile x = new EdgePile();
        due("read of " + text, Texts.read(x, text), number);
        due("place of " + text, x.place(), place);
    }

    static void fine(String text) {
        faultAt(0, -1, text);
    }

    static void finish() {
        System.out.println(asked + " answers, wrong " + wrong);
        if (wrong != 0) System.exit(1);
    }
}
