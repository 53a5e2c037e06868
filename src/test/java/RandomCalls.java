import java.util.Random;

/** Random calls on a twin, most of them with arguments that are near to what the document allows. */
final class RandomCalls {
    private final Random random;
    private final Texts texts;
    private final Twin twin;

    RandomCalls(Random random, Twin twin) {
        this.random = random;
        this.texts = new Texts(random);
        this.twin = twin;
    }

    int near(int least, int most) {
        int r = random.nextInt(60);
        if (r == 0) return Integer.MIN_VALUE;
        if (r == 1) return Integer.MAX_VALUE;
        if (r < 5) return least - 1 - random.nextInt(2);
        if (r < 8) return most + 1 + random.nextInt(2);
        return least + random.nextInt(most - least + 1);
    }

    boolean oneIn(int n) {
        return random.nextInt(n) == 0;
    }

    String anyText() {
        return texts.any(oneIn(4));
    }

    /** Feeds a text and reads it. */
    void text(String text) {
        feed(text);
        twin.read();
        twin.place();
    }

    void feed(String text) {
        twin.note("text: " + text);
        for (int[] f : Texts.feeds(text)) twin.feed(f[0], f[1], f[2], f[3], f[4]);
        twin.back(Texts.surplus(text));
    }

    void step() {
        int kind = random.nextInt(100);
        if (kind < 2) text(anyText());
        else if (kind < 30) change();
        else if (kind < 60) look();
        else if (kind < 80) wouldBe();
        else if (kind < 88) orders();
        else seen();
    }

    /** One call that looks at something, of any kind. */
    void ask() {
        switch (random.nextInt(4)) {
            case 0, 1 -> look();
            case 2 -> wouldBe();
            default -> {
                if (oneIn(2)) orders();
                else fitting();
            }
        }
    }

    void change() {
        switch (random.nextInt(10)) {
            case 7 -> twin.undo();
            case 8 -> twin.hold(near(0, 2));
            case 9 -> twin.restore(near(0, 2));
            default -> thing();
        }
    }

    /** One of the things that can be undone. */
    void thing() {
        switch (random.nextInt(7)) {
            case 0, 1, 2 -> twin.lay(near(0, 5), oneIn(6) ? near(-999, 999) : near(-40, 20), oneIn(4));
            case 3 -> twin.lift();
            default -> twin.move(near(0, 3), oneIn(6) ? near(-1998, 1998) : near(-9, 9));
        }
    }

    void look() {
        int a = near(0, 5);
        switch (random.nextInt(8)) {
            case 0 -> twin.book(a, near(0, 5));
            case 1 -> twin.level(a);
            case 2 -> twin.load(a);
            case 3 -> twin.point(a, random.nextBoolean());
            case 4 -> twin.stands();
            case 5 -> twin.tips(near(0, 1));
            case 6 -> twin.over();
            default -> twin.count(near(0, 8));
        }
    }

    void wouldBe() {
        int a = near(0, 5);
        boolean most = random.nextBoolean();
        switch (random.nextInt(7)) {
            case 0, 1 -> {
                int at = near(0, Math.max(1, twin.plain().book(a, 0)));
                if (most) twin.bears(a, at);
                else twin.holds(a, at);
            }
            case 2 -> twin.pushed(near(0, 1));
            case 3 -> twin.takings();
            case 4, 5 -> twin.slides(a, most);
            default -> twin.out(a);
        }
    }

    void orders() {
        boolean below = random.nextBoolean();
        switch (random.nextInt(6)) {
            case 0, 1 -> twin.reach(oneIn(10) ? random.nextInt() : order(), below);
            case 2, 3 -> twin.bestOrder(near(0, 1 << twin.plain().count(0)));
            case 4 -> twin.alike(near(1, 40), below);
            default -> {
                int b = near(1, 99);
                twin.needed(random.nextBoolean() ? near(0, 99) : near(0, Math.max(1, Math.min(99, 2 * b))), b);
            }
        }
    }

    private int order() {
        int order = 0;
        int digits = random.nextInt(7);
        for (int i = 0; i < digits; i++) {
            int digit = random.nextInt(6) + 1;
            if (oneIn(8) || !("" + order).contains("" + digit)) order = order * 10 + digit;
        }
        return order;
    }

    void seen() {
        switch (random.nextInt(6)) {
            case 0, 1, 2 -> see();
            case 3 -> {
                if (oneIn(4)) twin.forget();
            }
            default -> fitting();
        }
    }

    /** Mostly as it is, for other piles leave no rows that fit. */
    void see() {
        twin.see(oneIn(6) ? random.nextBoolean() : twin.plain().stands());
    }

    void fitting() {
        int most = near(1, twin.plain().count(0) > 4 ? 3 : 6);
        int k = near(0, Math.max(0, twin.plain().count(7)));
        if (oneIn(2)) twin.fits(most, k);
        else twin.span(most, k, near(0, 5));
    }
}
