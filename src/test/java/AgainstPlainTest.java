import java.util.Map;
import java.util.Random;

/** Random runs of calls: EdgePile must answer as PlainPile does. The seeds are fixed, so each run is the same. */
public final class AgainstPlainTest {
    private static final int RUNS = Integer.getInteger("runs", 1500);

    public static void main(String[] args) {
        int wrong = 0;
        for (long seed = 0; seed < RUNS && wrong < 5; seed++) wrong += run(new Random(seed)) ? 0 : 1;
        Map<Long, Integer> stood = Twin.ANSWERS.get("stands");
        System.out.println("runs " + RUNS + ", wrong " + wrong + ", fell and stood " + stood + ", faults "
            + Twin.ANSWERS.get("read"));
        if (wrong != 0) System.exit(1);
    }

    private static boolean run(Random random) {
        Twin twin = new Twin();
        RandomCalls some = new RandomCalls(random, twin);
        int calls = 40 + random.nextInt(80);
        if (!some.oneIn(20)) some.text(some.anyText());
        for (int i = 0; i < calls && !twin.wentWrong(); i++) some.step();
        for (int what = -1; what <= 9 && !twin.wentWrong(); what++) twin.count(what);
        return !twin.wentWrong();
    }
}
