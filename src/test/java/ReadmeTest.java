import java.io.IOException;
import java.nio.file.Files;
import java.nio.file.Path;

/** The example of README.md: each of its lines stands there, and answers what stands behind it. */
public final class ReadmeTest extends Checks {
    private static String readme = "";

    public static void main(String[] args) throws IOException {
        readme = Files.readString(Path.of(System.getProperty("project.root", "."), "README.md"));
        String text = "book a 20 5; book b 10 2; heavy b = told + level; table 50; pile a at -14 b at -2; fly 1 on b 10;";
        stands("String text = \"" + text + "\";");
        EdgePile pile = new EdgePile();
        for (int i = 0; i < text.length(); i += 20) feedTwenty(pile, text, i);
        line("pile.back(20 - text.length() % 20);", "", pile.back(20 - text.length() % 20), text.length());
        line("pile.read();", "0: no FAULT", pile.read(), 0);
        line("pile.stands();", "true", pile.stands() ? 1 : 0, 1);
        line("pile.load(0);", "9: a 5, b 2 + 1, the fly 1", pile.load(0), 9);
        line("pile.over();", "8", pile.over(), 8);
        line("pile.bears(1, 10);", "0: no heavier fly at b's right end", pile.bears(1, 10), 0);
        line("pile.slides(1, true);", "0", pile.slides(1, true), 0);
        line("pile.move(1, 2);", "true", pile.move(1, 2) ? 1 : 0, 1);
        line("pile.tips(0);", "0: the whole pile tips", pile.tips(0), 0);
        line("pile.undo();", "true", pile.undo() ? 1 : 0, 1);
        line("pile.bestOrder(3);", "12: a below b", pile.bestOrder(3), 12);
        line("pile.reach(12, false);", "85, by pile.reach(12, true), 7", pile.reach(12, false), 85);
        due("below", pile.reach(12, true), 7);
        finish();
    }

    private static void feedTwenty(EdgePile pile, String text, int from) {
        int[] four = new int[5];
        for (int i = 0; i < 20; i++) {
            int sign = from + i < text.length() ? text.charAt(from + i) : ' ';
            four[i / 4] = four[i / 4] << 8 | sign;
        }
        pile.feed(four[0], four[1], four[2], four[3], four[4]);
    }

    private static void line(String call, String told, long got, long want) {
        due(call, got, want);
        stands(told.isEmpty() ? call : call + " // " + told);
    }

    private static void stands(String part) {
        yes("stands in README.md: " + part, readme.replaceAll(" +", " ").contains(part));
    }
}
