import java.util.Map;
import java.util.TreeMap;

/** An EdgePile and a PlainPile that get the same calls: what the one answers, the other must answer too. */
final class Twin {
    /** How often each call was made by all twins, and how many different answers it gave. */
    static final Map<String, Map<Long, Integer>> ANSWERS = new TreeMap<>();

    private final EdgePile x = new EdgePile();
    private final PlainPile plain = new PlainPile();
    private final StringBuilder trace = new StringBuilder();
    private int calls = 0;
    private boolean wrong = false;

    int calls() {
        return calls;
    }

    boolean wentWrong() {
        return wrong;
    }

    /** What is asked of the plain one alone is no call of the run: it only tells what to ask next. */
    PlainPile plain() {
        return plain;
    }

    void note(String what) {
        trace.append(what).append('\n');
    }

    private long same(long got, long want, String name, Object... arguments) {
        calls++;
        ANSWERS.computeIfAbsent(name, key -> new TreeMap<>()).merge(want, 1, Integer::sum);
        trace.append(calls).append(": ").append(name);
        for (Object argument : arguments) trace.append(' ').append(argument);
        trace.append(" -> ").append(want).append('\n');
        if (got != want && !wrong) {
            wrong = true;
            System.out.println(trace + "   but EdgePile answered " + got);
        }
        return want;
    }

    private boolean same(boolean got, boolean want, String name, Object... arguments) {
        return same(got ? 1 : 0, want ? 1 : 0, name, arguments) == 1;
    }

    long feed(int a, int b, int c, int d, int e) {
        return same(x.feed(a, b, c, d, e), plain.feed(a, b, c, d, e), "feed", a, b, c, d, e);
    }

    long back(int n) {
        return same(x.back(n), plain.back(n), "back", n);
    }

    long read() {
        return same(x.read(), plain.read(), "read");
    }

    long place() {
        return same(x.place(), plain.place(), "place");
    }

    long book(int book, int what) {
        return same(x.book(book, what), plain.book(book, what), "book", book, what);
    }

    long level(int level) {
        return same(x.level(level), plain.level(level), "level", level);
    }

    long load(int level) {
        return same(x.load(level), plain.load(level), "load", level);
    }

    long point(int level, boolean below) {
        return same(x.point(level, below), plain.point(level, below), "point", level, below);
    }

    boolean stands() {
        return same(x.stands(), plain.stands(), "stands");
    }

    long tips(int what) {
        return same(x.tips(what), plain.tips(what), "tips", what);
    }

    long over() {
        return same(x.over(), plain.over(), "over");
    }

    long lay(int book, int place, boolean glued) {
        return same(x.lay(book, place, glued), plain.lay(book, place, glued), "lay", book, place, glued);
    }

    long lift() {
        return same(x.lift(), plain.lift(), "lift");
    }

    boolean move(int level, int by) {
        return same(x.move(level, by), plain.move(level, by), "move", level, by);
    }

    boolean undo() {
        return same(x.undo(), plain.undo(), "undo");
    }

    long bears(int book, int at) {
        return same(x.bears(book, at), plain.bears(book, at), "bears", book, at);
    }

    long holds(int book, int at) {
        return same(x.holds(book, at), plain.holds(book, at), "holds", book, at);
    }

    long pushed(int what) {
        return same(x.pushed(what), plain.pushed(what), "pushed", what);
    }

    long takings() {
        return same(x.takings(), plain.takings(), "takings");
    }

    long slides(int level, boolean most) {
        return same(x.slides(level, most), plain.slides(level, most), "slides", level, most);
    }

    long out(int level) {
        return same(x.out(level), plain.out(level), "out", level);
    }

    long reach(int order, boolean below) {
        return same(x.reach(order, below), plain.reach(order, below), "reach", order, below);
    }

    long bestOrder(int set) {
        return same(x.bestOrder(set), plain.bestOrder(set), "bestOrder", set);
    }

    long alike(int n, boolean below) {
        return same(x.alike(n, below), plain.alike(n, below), "alike", n, below);
    }

    long needed(int a, int b) {
        return same(x.needed(a, b), plain.needed(a, b), "needed", a, b);
    }

    long see(boolean stood) {
        return same(x.see(stood), plain.see(stood), "see", stood);
    }

    long forget() {
        return same(x.forget(), plain.forget(), "forget");
    }

    long fits(int most, int k) {
        return same(x.fits(most, k), plain.fits(most, k), "fits", most, k);
    }

    long span(int most, int k, int book) {
        return same(x.span(most, k, book), plain.span(most, k, book), "span", most, k, book);
    }

    boolean hold(int slot) {
        return same(x.hold(slot), plain.hold(slot), "hold", slot);
    }

    boolean restore(int slot) {
        return same(x.restore(slot), plain.restore(slot), "restore", slot);
    }

    long count(int what) {
        return same(x.count(what), plain.count(what), "count", what);
    }
}
