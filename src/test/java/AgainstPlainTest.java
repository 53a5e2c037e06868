import java.util.Random;

/** Random runs of calls: EdgePile must answer as PlainPile does. The seeds are fixed, so each run is the same. */
public final class AgainstPlainTest {
    private static final int RUNS = Integer.getInteger("runs", 1500);
    private static int wrong = 0;
    private static int standing = 0;
    private static int asked = 0;
    private static final int[] FAULTS = new int[6];

    private final Random random;
    private final Texts texts;
    private final EdgePile x = new EdgePile();
    private final PlainPile plain = new PlainPile();
    private final StringBuilder told = new StringBuilder();

    private AgainstPlainTest(long seed) {
        random = new Random(seed);
        texts = new Texts(random);
    }

    public static void main(String[] args) {
        for (long seed = 0; seed < RUNS && wrong < 5; seed++) new AgainstPlainTest(seed).run();
        System.out.println("runs " + RUNS + ", wrong " + wrong + ", stood " + standing + " of " + asked
            + ", faults " + java.util.Arrays.toString(FAULTS));
        if (wrong != 0) System.exit(1);
    }

    private void run() {
        int before = wrong;
        int calls = 40 + random.nextInt(80);
        if (random.nextInt(20) != 0) text();
        for (int i = 0; i < calls && wrong == before; i++) step();
        for (int what = -1; what <= 9 && wrong == before; what++) due("count " + what, x.count(what), plain.count(what));
    }

    private void due(String call, long got, long want) {
        told.append(call).append(" -> ").append(want).append('\n');
        if (got != want) {
            wrong++;
            System.out.println(told + "   but EdgePile answered " + got);
        }
    }

    private static long asLong(boolean yes) {
        return yes ? 1 : 0;
    }

    private int near(int least, int most) {
        int r = random.nextInt(60);
        if (r == 0) return Integer.MIN_VALUE;
        if (r == 1) return Integer.MAX_VALUE;
        if (r < 5) return least - 1 - random.nextInt(2);
        if (r < 8) return most + 1 + random.nextInt(2);
        return least + random.nextInt(most - least + 1);
    }

    private void text() {
        String text = texts.any(random.nextInt(4) == 0);
        told.append("text: ").append(text).append('\n');
        for (int[] f : Texts.feeds(text)) {
            due("feed", x.feed(f[0], f[1], f[2], f[3], f[4]), plain.feed(f[0], f[1], f[2], f[3], f[4]));
        }
        int surplus = Texts.surplus(text);
        due("back " + surplus, x.back(surplus), plain.back(surplus));
        int fault = plain.read();
        FAULTS[fault]++;
        due("read", x.read(), fault);
        due("place", x.place(), plain.place());
    }

    private void step() {
        int kind = random.nextInt(100);
        if (kind < 2) text();
        else if (kind < 30) change();
        else if (kind < 60) look();
        else if (kind < 80) wouldBe();
        else if (kind < 88) orders();
        else seen();
    }

    private void change() {
        switch (random.nextInt(10)) {
            case 0, 1, 2 -> {
                int book = near(0, 5), place = random.nextInt(6) == 0 ? near(-999, 999) : near(-40, 20);
                boolean glued = random.nextInt(4) == 0;
                due("lay " + book + " " + place + " " + glued, x.lay(book, place, glued),
                    plain.lay(book, place, glued));
            }
            case 3 -> due("lift", x.lift(), plain.lift());
            case 4, 5, 6 -> {
                int level = near(0, 3), by = random.nextInt(6) == 0 ? near(-1998, 1998) : near(-9, 9);
                due("move " + level + " " + by, asLong(x.move(level, by)), asLong(plain.move(level, by)));
            }
            case 7 -> due("undo", asLong(x.undo()), asLong(plain.undo()));
            case 8 -> {
                int slot = near(0, 2);
                due("hold " + slot, asLong(x.hold(slot)), asLong(plain.hold(slot)));
            }
            default -> {
                int slot = near(0, 2);
                due("restore " + slot, asLong(x.restore(slot)), asLong(plain.restore(slot)));
            }
        }
    }

    private void look() {
        int a = near(0, 5);
        switch (random.nextInt(8)) {
            case 0 -> {
                int what = near(0, 5);
                due("book " + a + " " + what, x.book(a, what), plain.book(a, what));
            }
            case 1 -> due("level " + a, x.level(a), plain.level(a));
            case 2 -> due("load " + a, x.load(a), plain.load(a));
            case 3 -> {
                boolean below = random.nextBoolean();
                due("point " + a + " " + below, x.point(a, below), plain.point(a, below));
            }
            case 4 -> {
                due("stands", asLong(x.stands()), asLong(plain.stands()));
                asked++;
                standing += plain.stands() && plain.count(1) > 0 ? 1 : 0;
            }
            case 5 -> {
                int what = near(0, 1);
                due("tips " + what, x.tips(what), plain.tips(what));
            }
            case 6 -> due("over", x.over(), plain.over());
            default -> {
                int what = near(0, 8);
                due("count " + what, x.count(what), plain.count(what));
            }
        }
    }

    private void wouldBe() {
        int a = near(0, 5);
        boolean most = random.nextBoolean();
        switch (random.nextInt(7)) {
            case 0, 1 -> {
                int length = Math.max(1, plain.book(a, 0));
                int at = near(0, length);
                if (most) due("bears " + a + " " + at, x.bears(a, at), plain.bears(a, at));
                else due("holds " + a + " " + at, x.holds(a, at), plain.holds(a, at));
            }
            case 2 -> {
                int what = near(0, 1);
                due("pushed " + what, x.pushed(what), plain.pushed(what));
            }
            case 3 -> due("takings", x.takings(), plain.takings());
            case 4, 5 -> due("slides " + a + " " + most, x.slides(a, most), plain.slides(a, most));
            default -> due("out " + a, x.out(a), plain.out(a));
        }
    }

    private void orders() {
        boolean below = random.nextBoolean();
        switch (random.nextInt(6)) {
            case 0, 1 -> {
                int order = 0;
                int digits = random.nextInt(7);
                for (int i = 0; i < digits; i++) {
                    int digit = random.nextInt(6) + 1;
                    if (random.nextInt(8) == 0 || !("" + order).contains("" + digit)) order = order * 10 + digit;
                }
                if (random.nextInt(10) == 0) order = random.nextInt();
                due("reach " + order + " " + below, x.reach(order, below), plain.reach(order, below));
            }
            case 2, 3 -> {
                int set = near(0, (1 << plain.count(0)));
                due("bestOrder " + set, x.bestOrder(set), plain.bestOrder(set));
            }
            case 4 -> {
                int n = near(1, 40);
                due("alike " + n + " " + below, x.alike(n, below), plain.alike(n, below));
            }
            default -> {
                int b = near(1, 99), a = random.nextBoolean() ? near(0, 99) : near(0, Math.max(1, Math.min(99, 2 * b)));
                due("needed " + a + " " + b, x.needed(a, b), plain.needed(a, b));
            }
        }
    }

    private void seen() {
        switch (random.nextInt(6)) {
            case 0, 1, 2 -> {
                boolean stood = random.nextInt(6) == 0 ? random.nextBoolean() : plain.stands();
                due("see " + stood, x.see(stood), plain.see(stood));
            }
            case 3 -> {
                if (random.nextInt(4) == 0) due("forget", x.forget(), plain.forget());
            }
            case 4 -> {
                int most = near(1, plain.count(0) > 4 ? 3 : 6), k = near(0, Math.max(0, plain.count(7)));
                due("fits " + most + " " + k, x.fits(most, k), plain.fits(most, k));
            }
            default -> {
                int most = near(1, plain.count(0) > 4 ? 3 : 6), k = near(0, Math.max(0, plain.count(7)));
                int book = near(0, 5);
                due("span " + most + " " + k + " " + book, x.span(most, k, book), plain.span(most, k, book));
            }
        }
    }
}
