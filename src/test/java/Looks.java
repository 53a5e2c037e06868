import java.util.ArrayList;
import java.util.List;

/** All that can be seen of an object, in parts, for some change what later parts would see. None takes 300 calls. */
final class Looks {
    static final String[] PROBES = {"look", "undo", "restore", "fits", "tape"};

    private Looks() {
    }

    static List<Long> seen(EdgePile x, String probe) {
        List<Long> all = new ArrayList<>();
        switch (probe) {
            case "look" -> look(x, all);
            case "undo" -> undone(x, all);
            case "restore" -> restored(x, all);
            case "fits" -> fitted(x, all);
            default -> {
                all.add((long) x.read());
                look(x, all);
            }
        }
        return all;
    }

    private static void undone(EdgePile x, List<Long> all) {
        for (int i = 0; i < 52; i++) {
            all.add(asLong(x.undo()));
            lying(x, all, i < 4);
        }
    }

    private static void restored(EdgePile x, List<Long> all) {
        for (int slot = 0; slot < 3; slot++) {
            all.add(asLong(x.restore(slot)));
            all.add((long) x.count(6));
            lying(x, all, true);
        }
    }

    static void fitted(EdgePile x, List<Long> all) {
        for (int k = 0; k <= 7; k++) {
            all.add((long) x.fits(2, k));
            for (int book = 0; book < 6; book++) all.add((long) x.span(2, k, book));
        }
        all.add((long) x.forget());
    }

    private static void lying(EdgePile x, List<Long> all, boolean inFull) {
        all.add((long) x.level(x.count(1) - 1));
        all.add((long) x.book(0, 4));
        for (int book = 0; book < 6 && inFull; book++) {
            all.add((long) x.book(book, 3));
            all.add((long) x.book(book, 4));
            all.add((long) x.book(book, 5));
        }
    }

    private static void look(EdgePile x, List<Long> all) {
        for (int what = 0; what <= 8; what++) all.add((long) x.count(what));
        all.add((long) x.place());
        told(x, all);
    }

    /** What hangs on the text and the PILE alone. */
    static void told(EdgePile x, List<Long> all) {
        for (int what = 0; what <= 4; what++) all.add((long) x.count(what));
        for (int i = 0; i < 6; i++) {
            for (int what = 0; what <= 5; what++) all.add((long) x.book(i, what));
            all.add((long) x.load(i));
            all.add(x.point(i, false));
            all.add(x.point(i, true));
            all.add((long) x.bears(i, 3));
            all.add((long) x.holds(i, 0));
            all.add((long) x.slides(i, true));
            all.add((long) x.slides(i, false));
            all.add((long) x.out(i));
        }
        all.add(asLong(x.stands()));
        all.add((long) x.tips(0));
        all.add((long) x.tips(1));
        all.add((long) x.over());
        all.add((long) x.takings());
        all.add((long) x.pushed(0));
        all.add((long) x.pushed(1));
        all.add((long) x.bestOrder((1 << x.count(0)) - 1));
        all.add(x.reach(1, true));
    }

    static long asLong(boolean yes) {
        return yes ? 1 : 0;
    }
}
