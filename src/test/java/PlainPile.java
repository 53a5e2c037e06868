import java.math.BigInteger;
import java.util.ArrayList;
import java.util.HashMap;
import java.util.LinkedHashSet;
import java.util.List;
import java.util.Map;
import java.util.Set;

/**
 * The document once more, by other means than EdgePile's: an Earley recogniser instead of a parser, laws split at
 * their weakest sign, fractions of BigIntegers, every FLY, every order and every row tried. Slow, and only for tests.
 */
final class PlainPile {
    record Book(String name, int length, int weight) { }
    record Fly(int weight, int book, int at) { }
    record Lying(int book, int place, boolean glued) { }
    record Token(String text, int at, String kind) { }
    record Rule(String left, List<String> right) { }
    record Item(Rule rule, int dot, int origin) { }
    record Sight(List<Lying> pile, boolean stood) { }
    record Fraction(BigInteger above, BigInteger below) {
        static Fraction of(long a, long b) {
            return reduced(BigInteger.valueOf(a), BigInteger.valueOf(b));
        }
        static Fraction reduced(BigInteger a, BigInteger b) {
            BigInteger g = a.gcd(b);
            return new Fraction(a.divide(g), b.divide(g));
        }
        Fraction plus(Fraction o) {
            return reduced(above.multiply(o.below).add(o.above.multiply(below)), below.multiply(o.below));
        }
        int compare(Fraction o) {
            return above.multiply(o.below).compareTo(o.above.multiply(below));
        }
        long part(boolean ofBelow) {
            return (ofBelow ? below : above).longValueExact();
        }
    }

    static final class DividedByZero extends RuntimeException {
        private static final long serialVersionUID = 1L;
    }

    static final Set<String> WORDS = Set.of("book", "heavy", "if", "then", "else", "table", "pile", "at", "glued",
        "fly", "on", "long", "told", "level", "place", "above");
    static final List<Rule> GRAMMAR = grammar(
        "text|", "text|text TELL",
        "TELL|book NAME INT INT ;", "TELL|heavy NAME = LAW ;", "TELL|table INT ;", "TELL|pile PILED ;",
        "TELL|fly INT on NAME INT ;",
        "LAW|E", "LAW|if E < E then E else LAW",
        "PILED|", "PILED|PILED NAME at PLACE", "PILED|PILED NAME at PLACE glued",
        "PLACE|INT", "PLACE|- INT",
        "E|PART", "E|E + PART", "E|E - PART",
        "PART|UNIT", "PART|PART * UNIT", "PART|PART / UNIT",
        "UNIT|INT", "UNIT|long", "UNIT|told", "UNIT|level", "UNIT|place", "UNIT|above", "UNIT|( E )");

    private static List<Rule> grammar(String... lines) {
        List<Rule> rules = new ArrayList<>();
        for (String line : lines) {
            String[] sides = line.split("\\|", -1);
            rules.add(new Rule(sides[0], sides[1].isEmpty() ? List.of() : List.of(sides[1].split(" "))));
        }
        return rules;
    }

    private StringBuilder tape = new StringBuilder();
    private int faultPlace = -1;
    private List<Book> books = new ArrayList<>();
    private Map<Integer, List<Token>> laws = new HashMap<>();
    private List<Fly> flies = new ArrayList<>();
    private int table = 100;
    private List<Lying> pile = new ArrayList<>();
    private final List<List<Lying>> past = new ArrayList<>();
    private final List<Sight> sights = new ArrayList<>();
    private final Map<Integer, List<Lying>> slots = new HashMap<>();

    int feed(int a, int b, int c, int d, int e) {
        if (tape.length() + 20 > 2000) return -1;
        for (int n : new int[] {a, b, c, d, e}) {
            for (int i = 3; i >= 0; i--) tape.append((char) (n >> (8 * i) & 255));
        }
        return tape.length();
    }

    int back(int n) {
        if (n < 0 || n > tape.length()) return -1;
        tape.setLength(tape.length() - n);
        return tape.length();
    }

    int read() {
        String text = tape.toString();
        tape = new StringBuilder();
        List<Token> tokens = tokens(text);
        int[] fault = shapeFault(tokens, text.length());
        if (fault == null) fault = new Tellings(tokens).fault;
        faultPlace = fault == null ? -1 : fault[1];
        if (fault != null) return fault[0];
        Tellings t = new Tellings(tokens);
        books = t.books;
        laws = t.laws;
        flies = t.flies;
        table = t.table;
        pile = t.pile;
        past.clear();
        sights.clear();
        slots.clear();
        return 0;
    }

    static List<Token> tokens(String text) {
        List<Token> all = new ArrayList<>();
        for (int i = 0; i < text.length(); ) {
            int end = i + 1;
            String set = "abcdefghijklmnopqrstuvwxyz".indexOf(text.charAt(i)) >= 0 ? "[a-z]+"
                : "0123456789".indexOf(text.charAt(i)) >= 0 ? "[0-9]+" : null;
            while (set != null && end < text.length() && text.substring(i, end + 1).matches(set)) end++;
            String run = text.substring(i, end);
            if (!"\t\n\r ".contains(run)) all.add(new Token(run, i, kind(run)));
            i = end;
        }
        return all;
    }

    private static String kind(String run) {
        if (WORDS.contains(run)) return run;
        if (run.matches("[a-z]{1,8}")) return "NAME";
        if (run.matches("[0-9]{1,4}")) return "INT";
        return run.length() == 1 && ";=+-*/<()".contains(run) ? run : "?";
    }

    private static int[] shapeFault(List<Token> tokens, int length) {
        int books = 0, flies = 0, ifs = 0, open = 0;
        Set<Item> items = closed(new LinkedHashSet<>(List.of(
            new Item(GRAMMAR.get(0), 0, 0), new Item(GRAMMAR.get(1), 0, 0))), new ArrayList<>(), 0);
        List<Set<Item>> sets = new ArrayList<>(List.of(items));
        for (int n = 0; n < tokens.size(); n++) {
            Token token = tokens.get(n);
            Set<Item> next = new LinkedHashSet<>();
            for (Item item : items) {
                List<String> right = item.rule.right;
                if (item.dot < right.size() && right.get(item.dot).equals(token.kind)) {
                    next.add(new Item(item.rule, item.dot + 1, item.origin));
                }
            }
            if (next.isEmpty()) return new int[] {1, token.at};
            switch (token.kind) {
                case "book" -> books++;
                case "fly" -> flies++;
                case "if" -> ifs++;
                case "heavy" -> ifs = 0;
                case "(" -> open++;
                case ")" -> open--;
                default -> { }
            }
            if (n == 400 || books > 6 || flies > 6 || ifs > 4 || open > 6) return new int[] {2, token.at};
            items = closed(next, sets, n + 1);
            sets.add(items);
        }
        for (Item item : items) {
            if (item.rule.left.equals("text") && item.dot == item.rule.right.size() && item.origin == 0) return null;
        }
        return new int[] {1, length};
    }

    private static Set<Item> closed(Set<Item> start, List<Set<Item>> ahead, int position) {
        List<Item> work = new ArrayList<>(start);
        Set<Item> all = new LinkedHashSet<>(start);
        for (int i = 0; i < work.size(); i++) {
            Item item = work.get(i);
            List<Item> more = new ArrayList<>();
            List<String> right = item.rule.right;
            if (item.dot == right.size()) {
                for (Item from : item.origin == position ? List.copyOf(all) : ahead.get(item.origin)) {
                    if (from.dot < from.rule.right.size() && from.rule.right.get(from.dot).equals(item.rule.left)) {
                        more.add(new Item(from.rule, from.dot + 1, from.origin));
                    }
                }
            } else {
                for (Rule rule : GRAMMAR) {
                    if (rule.left.equals(right.get(item.dot))) {
                        more.add(new Item(rule, 0, position));
                        if (rule.right.isEmpty()) more.add(new Item(item.rule, item.dot + 1, item.origin));
                    }
                }
            }
            for (Item one : more) if (all.add(one)) work.add(one);
        }
        return all;
    }

    /** What a text of good shape tells, or its first fault of meaning. */
    static final class Tellings {
        final List<Book> books = new ArrayList<>();
        final Map<Integer, List<Token>> laws = new HashMap<>();
        final List<Fly> flies = new ArrayList<>();
        int table = 100;
        List<Lying> pile = new ArrayList<>();
        int[] fault = null;

        Tellings(List<Token> tokens) {
            List<Token> one = new ArrayList<>();
            for (Token token : tokens) {
                if (!token.kind.equals(";")) {
                    one.add(token);
                } else if (fault == null) {
                    tell(one);
                    one = new ArrayList<>();
                }
            }
        }

        private void tell(List<Token> t) {
            switch (t.get(0).kind) {
                case "book" -> {
                    if (find(t.get(1)) >= 0) slip(3, t.get(1));
                    int length = number(t.get(2), 1, 99);
                    int weight = number(t.get(3), 1, 20);
                    books.add(new Book(t.get(1).text, length, weight));
                }
                case "heavy" -> laws.put(known(t.get(1)), List.copyOf(t.subList(3, t.size())));
                case "table" -> table = number(t.get(1), 1, 999);
                case "fly" -> {
                    int weight = number(t.get(1), 0, 99);
                    int book = known(t.get(3));
                    flies.add(new Fly(weight, book, number(t.get(4), 0, book < 0 ? 9999 : books.get(book).length)));
                }
                default -> {
                    pile = new ArrayList<>();
                    for (int i = 1; i < t.size(); ) {
                        int book = known(t.get(i));
                        for (Lying one : pile) if (one.book == book) slip(3, t.get(i));
                        boolean minus = t.get(i + 2).text.equals("-");
                        i += minus ? 3 : 2;
                        int place = number(t.get(i), 0, 999);
                        i++;
                        boolean glued = i < t.size() && t.get(i).text.equals("glued");
                        i += glued ? 1 : 0;
                        pile.add(new Lying(book, minus ? -place : place, glued));
                    }
                }
            }
        }

        private int find(Token name) {
            for (int i = 0; i < books.size(); i++) if (books.get(i).name.equals(name.text)) return i;
            return -1;
        }

        private int known(Token name) {
            int book = find(name);
            if (book < 0) slip(4, name);
            return book;
        }

        private int number(Token token, int least, int most) {
            int n = Integer.parseInt(token.text);
            if (n < least || n > most) slip(5, token);
            return n;
        }

        private void slip(int number, Token token) {
            if (fault == null) fault = new int[] {number, token.at};
        }
    }

    int place() {
        return faultPlace;
    }

    private static int law(List<Token> t, Map<String, Integer> values) {
        if (!t.get(0).text.equals("if")) return sum(t, values);
        int less = first(t, "<"), then = first(t, "then"), otherwise = first(t, "else");
        boolean holds = sum(t.subList(1, less), values) < sum(t.subList(less + 1, then), values);
        return holds ? sum(t.subList(then + 1, otherwise), values)
            : law(t.subList(otherwise + 1, t.size()), values);
    }

    private static int first(List<Token> t, String word) {
        for (int i = 0; i < t.size(); i++) if (t.get(i).text.equals(word)) return i;
        throw new IllegalStateException(word);
    }

    private static int sum(List<Token> t, Map<String, Integer> values) {
        for (String weakest : new String[] {"+-", "*/"}) {
            int deep = 0;
            for (int i = t.size() - 1; i >= 0; i--) {
                String s = t.get(i).text;
                deep += s.equals(")") ? 1 : s.equals("(") ? -1 : 0;
                if (deep == 0 && weakest.contains(s)) {
                    int a = sum(t.subList(0, i), values), b = sum(t.subList(i + 1, t.size()), values);
                    if (s.equals("/") && b == 0) throw new DividedByZero();
                    return (int) switch (s) {
                        case "+" -> (long) a + b;
                        case "-" -> (long) a - b;
                        case "*" -> (long) a * b;
                        default -> (long) a / b;
                    };
                }
            }
        }
        if (t.get(0).text.equals("(")) return sum(t.subList(1, t.size() - 1), values);
        return t.get(0).kind.equals("INT") ? Integer.parseInt(t.get(0).text) : values.get(t.get(0).text);
    }

    private int[] weights(List<Lying> p) {
        int[] w = new int[p.size()];
        for (int i = 0; i < w.length; i++) {
            Book b = books.get(p.get(i).book);
            int tells = b.weight;
            if (laws.containsKey(p.get(i).book)) {
                try {
                    tells = law(laws.get(p.get(i).book), Map.of("long", b.length, "told", b.weight, "level", i,
                        "place", p.get(i).place, "above", w.length - i - 1));
                } catch (DividedByZero e) {
                    tells = 0;
                }
            }
            w[i] = tells < 1 ? 1 : tells > 99 ? 99 : tells;
        }
        return w;
    }

    private Fraction pointOf(List<Lying> p, int[] w, List<Fly> on, int level) {
        return Fraction.of(turn(p, w, on, level), 2 * loadOf(p, w, on, level));
    }

    private static long loadOf(List<Lying> p, int[] w, List<Fly> on, int level) {
        long sum = 0;
        for (int i = level; i < p.size(); i++) {
            sum += w[i];
            for (Fly fly : on) if (fly.book == p.get(i).book) sum += fly.weight;
        }
        return sum;
    }

    private long turn(List<Lying> p, int[] w, List<Fly> on, int level) {
        long sum = 0;
        for (int i = level; i < p.size(); i++) {
            Lying one = p.get(i);
            sum += w[i] * (2L * one.place + books.get(one.book).length);
            for (Fly fly : on) if (fly.book == one.book) sum += 2L * fly.weight * (one.place + fly.at);
        }
        return sum;
    }

    /** 0 stands, 1 to the right, -1 to the left. */
    private int falls(List<Lying> p, int[] w, List<Fly> on, int level) {
        Lying one = p.get(level);
        if (level > 0 && one.glued) return 0;
        long leftBelow = level == 0 ? -table : p.get(level - 1).place;
        long rightBelow = level == 0 ? 0 : right(p.get(level - 1));
        long from = Math.max(leftBelow, one.place), to = Math.min(rightBelow, right(one));
        if (from > to) return one.place > rightBelow ? 1 : -1;
        long load = 2 * loadOf(p, w, on, level), turn = turn(p, w, on, level);
        return turn > to * load ? 1 : turn < from * load ? -1 : 0;
    }

    private int right(Lying one) {
        return one.place + books.get(one.book).length;
    }

    private boolean standing(List<Lying> p, int[] w, List<Fly> on) {
        for (int i = 0; i < p.size(); i++) if (falls(p, w, on, i) != 0) return false;
        return true;
    }

    private boolean standing(List<Lying> p) {
        return standing(p, weights(p), flies);
    }

    private int levelOf(int book) {
        for (int i = 0; i < pile.size(); i++) if (pile.get(i).book == book) return i;
        return -1;
    }

    private boolean isLevel(int level) {
        return level >= 0 && level < pile.size();
    }

    int book(int book, int what) {
        if (book < 0 || book >= books.size() || what < 0 || what > 5) return -10000;
        int level = levelOf(book);
        return switch (what) {
            case 0 -> books.get(book).length;
            case 1 -> books.get(book).weight;
            case 2 -> level < 0 ? books.get(book).weight : weights(pile)[level];
            case 3 -> level < 0 ? -2 : level;
            case 4 -> level < 0 ? -1000 : pile.get(level).place;
            default -> level >= 0 && pile.get(level).glued ? 1 : 0;
        };
    }

    int level(int level) {
        return isLevel(level) ? pile.get(level).book : -1;
    }

    int load(int level) {
        return isLevel(level) ? (int) loadOf(pile, weights(pile), flies, level) : -1;
    }

    long point(int level, boolean below) {
        return isLevel(level) ? pointOf(pile, weights(pile), flies, level).part(below) : -1000000;
    }

    boolean stands() {
        return standing(pile);
    }

    int tips(int what) {
        if (what < 0 || what > 1) return -1;
        for (int i = 0; i < pile.size(); i++) {
            int side = falls(pile, weights(pile), flies, i);
            if (side != 0) return what == 0 ? i : side > 0 ? 1 : 0;
        }
        return -2;
    }

    int over() {
        return over(pile);
    }

    private int over(List<Lying> p) {
        return Math.max(0, p.stream().mapToInt(this::right).max().orElse(0));
    }

    int lay(int book, int place, boolean glued) {
        if (book < 0 || book >= books.size() || levelOf(book) >= 0 || place < -999 || place > 999) return -1;
        keepPast();
        pile.add(new Lying(book, place, glued));
        return pile.size() - 1;
    }

    int lift() {
        if (pile.isEmpty()) return -1;
        keepPast();
        return pile.remove(pile.size() - 1).book;
    }

    boolean move(int level, int by) {
        if (!isLevel(level)) return false;
        for (int i = level; i < pile.size(); i++) if (Math.abs((long) pile.get(i).place + by) > 999) return false;
        keepPast();
        pile = moved(pile, level, by);
        return true;
    }

    private void keepPast() {
        past.add(List.copyOf(pile));
        if (past.size() > 50) past.remove(0);
    }

    private static List<Lying> moved(List<Lying> p, int level, int by) {
        List<Lying> q = new ArrayList<>(p);
        for (int i = level; i < q.size(); i++) {
            q.set(i, new Lying(q.get(i).book, q.get(i).place + by, q.get(i).glued));
        }
        return q;
    }

    boolean undo() {
        if (past.isEmpty()) return false;
        pile = new ArrayList<>(past.remove(past.size() - 1));
        return true;
    }

    int bears(int book, int at) {
        return extreme(book, at, true);
    }

    int holds(int book, int at) {
        return extreme(book, at, false);
    }

    private int extreme(int book, int at, boolean most) {
        if (book < 0 || book >= books.size() || levelOf(book) < 0) return -1;
        if (at < 0 || at > books.get(book).length) return -1;
        int[] w = weights(pile);
        for (int n = 0; n <= 9999; n++) {
            List<Fly> more = new ArrayList<>(flies);
            more.add(new Fly(most ? 9999 - n : n, book, at));
            if (standing(pile, w, more)) return most ? 9999 - n : n;
        }
        return -2;
    }

    int pushed(int what) {
        if (what < 0 || what > 1) return -1;
        List<Lying> p = pile;
        for (int level = p.size() - 1; level >= 0; level--) {
            int by = 0;
            if (falls(p, weights(p), flies, level) == 0) {
                while (by < 200) {
                    List<Lying> q = moved(p, level, by + 1);
                    if (falls(q, weights(q), flies, level) != 0) break;
                    by++;
                }
            }
            p = moved(p, level, by);
        }
        return what == 0 ? over(p) : standing(p) ? 1 : 0;
    }

    int takings() {
        return takings(pile);
    }

    private int takings(List<Lying> p) {
        if (!standing(p)) return 0;
        if (p.isEmpty()) return 1;
        int sum = 0;
        for (int i = 0; i < p.size(); i++) sum += takings(without(p, i));
        return sum;
    }

    private static List<Lying> without(List<Lying> p, int level) {
        List<Lying> q = new ArrayList<>(p);
        q.remove(level);
        if (level < q.size()) q.set(level, new Lying(q.get(level).book, q.get(level).place, false));
        return q;
    }

    int slides(int level, boolean most) {
        if (!isLevel(level)) return -1000;
        if (!standing(pile)) return -2000;
        int by = 0;
        int step = most ? 1 : -1;
        while (Math.abs(by) < 200 && standing(moved(pile, level, by + step))) by += step;
        return by;
    }

    int out(int level) {
        return !isLevel(level) ? -1 : standing(without(pile, level)) ? 1 : 0;
    }

    long reach(int order, boolean below) {
        String digits = Integer.toString(order);
        if (order <= 0 || digits.chars().distinct().count() != digits.length()) return -1;
        List<Integer> numbers = new ArrayList<>();
        for (char digit : digits.toCharArray()) {
            if (digit < '1' || digit > '0' + books.size()) return -1;
            numbers.add(digit - '1');
        }
        return reachOf(numbers).part(below);
    }

    private Fraction reachOf(List<Integer> order) {
        Fraction sum = Fraction.of(0, 1);
        for (int i = 0; i < order.size(); i++) {
            Book b = books.get(order.get(i));
            long heavy = 0;
            for (int n : order.subList(i, order.size())) heavy += books.get(n).weight;
            sum = sum.plus(Fraction.of((long) b.weight * b.length, 2 * heavy));
        }
        return sum;
    }

    int bestOrder(int set) {
        if (set <= 0 || set >= 1 << books.size()) return -1;
        List<List<Integer>> all = new ArrayList<>();
        orders(set, new ArrayList<>(), all);
        List<Integer> best = all.get(0);
        Fraction farthest = reachOf(best);
        for (List<Integer> one : all) {
            Fraction far = reachOf(one);
            if (far.compare(farthest) > 0) {
                best = one;
                farthest = far;
            }
        }
        int number = 0;
        for (int n : best) number = number * 10 + n + 1;
        return number;
    }

    /** In the order of their numbers. */
    private void orders(int rest, List<Integer> ahead, List<List<Integer>> all) {
        if (rest == 0) all.add(List.copyOf(ahead));
        for (int i = 0; i < books.size(); i++) {
            if ((rest >> i & 1) == 1) {
                ahead.add(i);
                orders(rest ^ 1 << i, ahead, all);
                ahead.remove(ahead.size() - 1);
            }
        }
    }

    long alike(int n, boolean below) {
        return n < 1 || n > 40 ? -1 : alikeOf(n).part(below);
    }

    private static Fraction alikeOf(int n) {
        Fraction sum = Fraction.of(0, 1);
        for (int i = 1; i <= n; i++) sum = sum.plus(Fraction.of(1, 2L * i));
        return sum;
    }

    int needed(int a, int b) {
        if (a < 0 || a > 99 || b < 1 || b > 99) return -1;
        for (int n = 1; n <= 40; n++) if (alikeOf(n).compare(Fraction.of(a, b)) >= 0) return n;
        return -2;
    }

    int see(boolean stood) {
        if (sights.size() == 6) return -1;
        sights.add(new Sight(List.copyOf(pile), stood));
        return sights.size() - 1;
    }

    int forget() {
        int were = sights.size();
        sights.clear();
        return were;
    }

    private List<int[]> fitting(int most, int k) {
        List<int[]> rows = new ArrayList<>();
        int all = (int) Math.round(Math.pow(most, books.size()));
        for (int n = 0; n < all; n++) {
            int[] row = new int[books.size()];
            for (int i = 0, rest = n; i < row.length; i++, rest /= most) row[i] = 1 + rest % most;
            boolean fit = true;
            for (int i = 0; i < k && fit; i++) {
                List<Lying> p = sights.get(i).pile;
                int[] w = p.stream().mapToInt(one -> row[one.book]).toArray();
                fit = standing(p, w, flies) == sights.get(i).stood;
            }
            if (fit) rows.add(row);
        }
        return rows;
    }

    int fits(int most, int k) {
        return most < 1 || most > 6 || k < 0 || k > sights.size() ? -1 : fitting(most, k).size();
    }

    int span(int most, int k, int book) {
        if (fits(most, k) == -1 || book < 0 || book >= books.size()) return -1;
        List<int[]> rows = fitting(most, k);
        if (rows.isEmpty()) return -2;
        return 10 * rows.stream().mapToInt(r -> r[book]).min().getAsInt()
            + rows.stream().mapToInt(r -> r[book]).max().getAsInt();
    }

    boolean hold(int slot) {
        if (slot < 0 || slot > 2) return false;
        slots.put(slot, List.copyOf(pile));
        return true;
    }

    boolean restore(int slot) {
        if (!slots.containsKey(slot)) return false;
        pile = new ArrayList<>(slots.get(slot));
        past.clear();
        return true;
    }

    int count(int what) {
        return switch (what) {
            case 0 -> books.size();
            case 1 -> pile.size();
            case 2 -> table;
            case 3 -> flies.size();
            case 4 -> (int) flies.stream().filter(f -> levelOf(f.book) >= 0).count();
            case 5 -> tape.length();
            case 6 -> past.size();
            case 7 -> sights.size();
            case 8 -> slots.size();
            default -> -1;
        };
    }
}
