import java.util.ArrayList;
import java.util.List;
import java.util.Random;

/** Texts for tests: how one comes onto the tape, and random ones. */
final class Texts {
    private static final String[] NAMES = {"a", "b", "c", "dd", "eee", "longname", "x", "books", "glue"};
    private static final String[] VARS = {"long", "told", "level", "place", "above"};
    private static final String[] ODD = {";", "=", "+", "-", "*", "/", "<", "(", ")", "book", "heavy", "table", "pile",
        "fly", "at", "glued", "on", "if", "then", "else", "long", "told", "a", "b", "0", "1", "1000", "12345",
        "ninechars", "A", "#", "\u00e9", "\u0000", "{", ",", "0007", "99", "100", "21", "20"};

    private final Random random;
    private final List<Integer> lengths = new ArrayList<>();

    Texts(Random random) {
        this.random = random;
    }

    /** The five numbers of each feed(..), the last one filled up with blanks, and how many to take back. */
    static int[][] feeds(String text) {
        int rows = (text.length() + 19) / 20;
        int[][] all = new int[rows][5];
        for (int i = 0; i < rows * 20; i++) {
            int sign = i < text.length() ? text.charAt(i) : ' ';
            all[i / 20][i % 20 / 4] |= (sign & 255) << (24 - 8 * (i % 4));
        }
        return all;
    }

    static int surplus(String text) {
        return (20 - text.length() % 20) % 20;
    }

    static void onto(EdgePile x, String text) {
        for (int[] row : feeds(text)) x.feed(row[0], row[1], row[2], row[3], row[4]);
        x.back(surplus(text));
    }

    static int read(EdgePile x, String text) {
        onto(x, text);
        return x.read();
    }

    static int read(PlainPile plain, String text) {
        for (int[] row : feeds(text)) plain.feed(row[0], row[1], row[2], row[3], row[4]);
        plain.back(surplus(text));
        return plain.read();
    }

    private int upTo(int n) {
        return random.nextInt(n + 1);
    }

    private boolean oneIn(int n) {
        return random.nextInt(n) == 0;
    }

    /** Mostly without a FAULT; spoiled: a few TOKENS are put in, left out or changed. */
    String any(boolean spoiled) {
        List<String> tokens = new ArrayList<>();
        lengths.clear();
        int books = oneIn(8) ? upTo(7) : 1 + upTo(5);
        boolean doubled = oneIn(2);
        for (int i = 0; i < books; i++) book(tokens, i, doubled);
        int tells = upTo(oneIn(10) ? 25 : 7);
        for (int i = 0; i < tells; i++) more(tokens, books);
        if (!oneIn(4)) pile(tokens, books);
        for (int i = 0; spoiled && i <= upTo(2); i++) spoil(tokens);
        return joined(tokens);
    }

    private void book(List<String> t, int i, boolean alike) {
        int length = oneIn(30) ? upTo(120) : alike ? 2 * (4 + upTo(2)) : 1 + upTo(oneIn(2) ? 98 : 20);
        int weight = oneIn(30) ? upTo(25) : alike ? 1 + upTo(1) : 1 + upTo(19);
        lengths.add(length);
        t.addAll(List.of("book", NAMES[oneIn(60) ? 0 : i % NAMES.length], "" + length, "" + weight, ";"));
    }

    private String name(int books) {
        return NAMES[oneIn(60) ? upTo(NAMES.length - 1) : books == 0 ? 0 : random.nextInt(books)];
    }

    private void more(List<String> t, int books) {
        if (books == 0 && !oneIn(10)) {
            t.addAll(List.of("table", "" + (1 + upTo(998)), ";"));
            return;
        }
        switch (random.nextInt(6)) {
            case 0 -> t.addAll(List.of("table", "" + (oneIn(20) ? upTo(1200) : 10 + upTo(90)), ";"));
            case 1, 2 -> fly(t, books);
            case 3 -> pile(t, books);
            default -> heavy(t, books);
        }
    }

    private void fly(List<String> t, int books) {
        int i = books == 0 ? 0 : random.nextInt(books);
        int length = i < lengths.size() ? lengths.get(i) : 1;
        int at = oneIn(40) ? length + 1 : upTo(length);
        t.addAll(List.of("fly", "" + (oneIn(60) ? 100 : upTo(oneIn(4) ? 99 : 8)), "on", NAMES[i % NAMES.length],
            "" + at, ";"));
    }

    /** Each BOOK somewhere on the one below, so that many piles stand. */
    private void pile(List<String> t, int books) {
        t.add("pile");
        List<Integer> order = new ArrayList<>();
        for (int i = 0; i < books; i++) order.add(i);
        java.util.Collections.shuffle(order, random);
        int levels = upTo(books);
        int left = -60;
        int length = 60;
        for (int n = 0; n < levels; n++) {
            int i = order.get(n);
            int own = lengths.get(i);
            int middle = left + length / 2 + (n == 0 ? upTo(40) - 10 : upTo(length / 2 + 1) - length / 4);
            int place = oneIn(15) ? upTo(1998) - 999 : middle - own / 2;
            t.addAll(List.of(oneIn(60) ? name(books) : NAMES[i % NAMES.length], "at"));
            if (place < 0) t.add("-");
            t.add("" + Math.abs(place));
            if (oneIn(5)) t.add("glued");
            left = place;
            length = own;
        }
        t.add(";");
    }

    private void heavy(List<String> t, int books) {
        t.addAll(List.of("heavy", name(books), "="));
        int ifs = oneIn(20) ? upTo(6) : upTo(2);
        for (int i = 0; i < ifs; i++) {
            t.add("if");
            sum(t, 0);
            t.add("<");
            sum(t, 0);
            t.add("then");
            sum(t, 0);
            t.add("else");
        }
        sum(t, 0);
        t.add(";");
    }

    private void sum(List<String> t, int deep) {
        product(t, deep);
        while (oneIn(3)) {
            t.add(oneIn(2) ? "+" : "-");
            product(t, deep);
        }
    }

    private void product(List<String> t, int deep) {
        unit(t, deep);
        while (oneIn(4)) {
            t.add(oneIn(2) ? "*" : "/");
            unit(t, deep);
        }
    }

    private void unit(List<String> t, int deep) {
        if (oneIn(100)) {
            int nested = upTo(8);
            for (int i = 0; i < nested; i++) t.add("(");
            t.add("told");
            for (int i = 0; i < nested; i++) t.add(")");
        } else if (deep < 4 && oneIn(5)) {
            t.add("(");
            sum(t, deep + 1);
            t.add(")");
        } else if (oneIn(2)) {
            t.add("" + upTo(oneIn(5) ? 9999 : 12));
        } else {
            t.add(VARS[random.nextInt(VARS.length)]);
        }
    }

    private void spoil(List<String> t) {
        String odd = ODD[random.nextInt(ODD.length)];
        if (t.isEmpty()) {
            t.add(odd);
            return;
        }
        int i = random.nextInt(t.size());
        switch (random.nextInt(4)) {
            case 0 -> t.add(i, odd);
            case 1 -> t.set(i, odd);
            case 2 -> t.remove(i);
            default -> t.add(i, t.get(random.nextInt(t.size())));
        }
    }

    private String joined(List<String> tokens) {
        StringBuilder all = new StringBuilder();
        boolean wide = oneIn(3);
        for (String token : tokens) {
            boolean joins = all.length() > 0 && runsInto(all.charAt(all.length() - 1), token.charAt(0));
            if (joins || wide && oneIn(2)) all.append("\t\n\r ".charAt(random.nextInt(4)));
            all.append(token);
        }
        if (oneIn(3)) all.append(" ");
        if (all.length() > 2000) all.setLength(2000);
        return all.toString();
    }

    private static boolean runsInto(char a, char b) {
        return Character.isLetter(a) && Character.isLetter(b) || Character.isDigit(a) && Character.isDigit(b);
    }
}
