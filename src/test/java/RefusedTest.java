import java.util.ArrayList;
import java.util.LinkedHashMap;
import java.util.List;
import java.util.Map;
import java.util.function.Consumer;
import java.util.function.LongPredicate;
import java.util.function.ToLongFunction;

/**
 * A refused call, and one that only looks, changes nothing: of two objects made alike one gets the call, and all
 * that can be seen later (undone, restored, read from the tape) is the same on both.
 */
public final class RefusedTest extends Checks {
    private static final int LEAST = Integer.MIN_VALUE;
    private static final int MOST = Integer.MAX_VALUE;
    private static final String SIX = "book a 10 2;book b 9 3;book c 8 4;book d 7 5;book e 6 6;book f 5 7;"
        + "heavy b=place+level*3;heavy c=if above<1 then 9 else 30/above;table 60;fly 3 on a 4;fly 2 on c 8;";
    private static final int[] NUMBERS = {LEAST, -2000, -1000, -999, -200, -1, 0, 1, 2, 3, 5, 6, 7, 9, 10, 11, 40, 41,
        63, 64, 99, 100, 200, 999, 1000, 123456, 654321, MOST};

    /** What a call answers; whether, with that answer, it is one that may change something. */
    private record Call(String name, ToLongFunction<EdgePile> run, LongPredicate changes) { }

    public static void main(String[] args) {
        says("What would be (nothing happens)");
        int refused = 0;
        for (Map.Entry<String, Consumer<EdgePile>> state : states().entrySet()) {
            Map<String, List<Long>> before = new LinkedHashMap<>();
            for (String probe : Looks.PROBES) before.put(probe, Looks.seen(made(state.getValue()), probe));
            for (Call call : calls()) refused += changesNothing(state.getKey(), state.getValue(), call, before);
            for (String text : FAULTY) faultChangesNothing(state.getKey(), state.getValue(), text);
        }
        System.out.println(refused + " calls that change nothing");
        yes("enough of them", refused > 1500);
        finish();
    }

    private static Map<String, Consumer<EdgePile>> states() {
        Map<String, Consumer<EdgePile>> all = new LinkedHashMap<>();
        all.put("new", x -> { });
        all.put("no pile", x -> Texts.read(x, SIX));
        all.put("one", x -> Texts.read(x, "book a 10 2;pile a at -5 glued;"));
        all.put("rich", RefusedTest::rich);
        all.put("fallen", x -> {
            rich(x);
            x.move(1, 400);
        });
        all.put("full", RefusedTest::full);
        return all;
    }

    private static void rich(EdgePile x) {
        Texts.read(x, SIX + "pile a at -12 c at -11 glued e at -9;");
        x.hold(2);
        x.see(true);
        x.move(0, 2);
        x.lay(1, -9, true);
        x.see(false);
        x.move(2, -1);
        x.hold(0);
        x.lift();
        Texts.read(x, "table 77;table 0;");
        Texts.onto(x, "book y 8 9;table 33;pile y at -5;");
    }

    private static void full(EdgePile x) {
        Texts.read(x, SIX + "pile a at -12 b at -12 c at -12;");
        for (int i = 0; i < 6; i++) {
            if (i < 3) x.hold(i);
            x.move(i % 3, 1 + i);
            x.see(i % 2 == 0);
        }
        for (int i = 0; i < 52; i++) x.move(i % 3, i % 2 == 0 ? -2 : 1);
        x.lay(3, -5, true);
        x.lay(4, -999, false);
        x.lay(5, 999, false);
        Texts.onto(x, " ".repeat(1980) + "book x 3 4;table 77;");
    }

    private static EdgePile made(Consumer<EdgePile> state) {
        EdgePile x = new EdgePile();
        state.accept(x);
        return x;
    }

    private static final LongPredicate NEVER = answer -> false;
    private static final LongPredicate UNLESS_NONE = answer -> answer != -1;
    private static final LongPredicate IF_TRUE = answer -> answer == 1;

    private static List<Call> calls() {
        List<Call> all = new ArrayList<>();
        all.add(new Call("feed", x -> x.feed(0x31323334, 0, -1, 7, 0x3b3b3b3b), UNLESS_NONE));
        all.add(new Call("place", x -> x.place(), NEVER));
        all.add(new Call("stands", x -> Looks.asLong(x.stands()), NEVER));
        all.add(new Call("over", x -> x.over(), NEVER));
        all.add(new Call("takings", x -> x.takings(), NEVER));
        all.add(new Call("lift", x -> x.lift(), UNLESS_NONE));
        all.add(new Call("undo", x -> Looks.asLong(x.undo()), IF_TRUE));
        all.add(new Call("see true", x -> x.see(true), UNLESS_NONE));
        all.add(new Call("see false", x -> x.see(false), UNLESS_NONE));
        all.add(new Call("forget", x -> x.forget(), answer -> answer > 0));
        for (int n : NUMBERS) ofOne(all, n);
        for (int n : NUMBERS) {
            for (int m : NUMBERS) if (Math.abs((long) n) < 8 || Math.abs((long) m) < 8) ofTwo(all, n, m);
        }
        return all;
    }

    private static void ofOne(List<Call> all, int n) {
        // back(0) takes nothing off, so it counts as one that changes nothing.
        all.add(new Call("back " + n, x -> x.back(n), answer -> answer != -1 && n != 0));
        all.add(new Call("level " + n, x -> x.level(n), NEVER));
        all.add(new Call("load " + n, x -> x.load(n), NEVER));
        all.add(new Call("tips " + n, x -> x.tips(n), NEVER));
        all.add(new Call("pushed " + n, x -> x.pushed(n), NEVER));
        all.add(new Call("out " + n, x -> x.out(n), NEVER));
        all.add(new Call("bestOrder " + n, x -> x.bestOrder(n), NEVER));
        all.add(new Call("count " + n, x -> x.count(n), NEVER));
        all.add(new Call("hold " + n, x -> Looks.asLong(x.hold(n)), IF_TRUE));
        all.add(new Call("restore " + n, x -> Looks.asLong(x.restore(n)), IF_TRUE));
        for (boolean is : new boolean[] {false, true}) {
            all.add(new Call("point " + n, x -> x.point(n, is), NEVER));
            all.add(new Call("slides " + n, x -> x.slides(n, is), NEVER));
            all.add(new Call("reach " + n, x -> x.reach(n, is), NEVER));
            all.add(new Call("alike " + n, x -> x.alike(n, is), NEVER));
        }
    }

    private static void ofTwo(List<Call> all, int n, int m) {
        all.add(new Call("book " + n + " " + m, x -> x.book(n, m), NEVER));
        all.add(new Call("lay " + n + " " + m, x -> x.lay(n, m, true), UNLESS_NONE));
        all.add(new Call("lay " + n + " " + m, x -> x.lay(n, m, false), UNLESS_NONE));
        all.add(new Call("move " + n + " " + m, x -> Looks.asLong(x.move(n, m)), IF_TRUE));
        all.add(new Call("bears " + n + " " + m, x -> x.bears(n, m), NEVER));
        all.add(new Call("holds " + n + " " + m, x -> x.holds(n, m), NEVER));
        all.add(new Call("needed " + n + " " + m, x -> x.needed(n, m), NEVER));
        if (n <= 3 || n > 6) {
            all.add(new Call("fits " + n + " " + m, x -> x.fits(n, m), NEVER));
            all.add(new Call("span " + n + " " + m, x -> x.span(n, m, m), NEVER));
            all.add(new Call("span " + n + " " + m + " 0", x -> x.span(n, m, 0), NEVER));
        }
    }

    private static int changesNothing(String name, Consumer<EdgePile> state, Call call, Map<String, List<Long>> before) {
        for (String probe : Looks.PROBES) {
            EdgePile x = made(state);
            if (call.changes.test(call.run.applyAsLong(x))) return 0;
            same(name + ": " + probe + " behind " + call.name, Looks.seen(x, probe), before.get(probe));
        }
        return 1;
    }

    private static void same(String what, List<Long> got, List<Long> want) {
        due(what + " (" + got + " for " + want + ")", got.equals(want) ? 1 : 0, 1);
    }

    private static final String[] FAULTY = {"#", "book z 1 1;table", "pile;".repeat(201), "book z 1 1;book z 1 1;",
        "book z 1 1;heavy z=5;fly 9 on z 1;table 9;pile z at 1 glued z at 2;", "pile z at 1;", "heavy z=1;", "table 0;",
        "book z 100 1;", "book z 1 1;fly 1 on z 2;", "heavy z=((((((("};

    private static void faultChangesNothing(String name, Consumer<EdgePile> state, String text) {
        for (String probe : Looks.PROBES) {
            EdgePile x = made(state);
            EdgePile y = made(state);
            x.back(x.count(5));
            y.back(y.count(5));
            yes(name + ": a FAULT", Texts.read(x, text) > 0 && x.place() >= 0);
            // Only the latest read's place may differ, so both have another read of one FAULT behind them.
            Texts.read(x, "  #");
            Texts.read(y, "  #");
            same(name + ": " + probe + " behind a FAULT of " + text, Looks.seen(x, probe), Looks.seen(y, probe));
        }
    }
}
