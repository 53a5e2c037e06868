import java.lang.reflect.Method;
import java.lang.reflect.Modifier;
import java.util.ArrayList;
import java.util.Comparator;
import java.util.List;
import java.util.Random;

/** Wild arguments in wild states, far beyond the 512th call too: no call may throw. */
public final class NeverThrowsTest {
    private static final int[] EDGES = {Integer.MIN_VALUE, Integer.MIN_VALUE + 1, -2000, -1000, -999, -201, -200, -2, -1, 0, 1,
        2, 3, 4, 5, 6, 7, 8, 9, 10, 20, 21, 40, 41, 50, 63, 64, 99, 100, 123456, 200, 654321, 999, 1000, 2000,
        Integer.MAX_VALUE - 1, Integer.MAX_VALUE};

    public static void main(String[] args) throws ReflectiveOperationException {
        List<Method> methods = new ArrayList<>();
        for (Method m : EdgePile.class.getDeclaredMethods()) if (Modifier.isPublic(m.getModifiers())) methods.add(m);
        methods.sort(Comparator.comparing(Method::getName));
        long calls = 0;
        for (long seed = 0; seed < 300; seed++) {
            Random random = new Random(seed);
            Texts texts = new Texts(random);
            EdgePile x = new EdgePile();
            for (int i = 0; i < 1500; i++) {
                int kind = random.nextInt(60);
                if (kind == 0) Texts.read(x, texts.any(random.nextInt(5) == 0));
                else if (kind == 1) Texts.read(x, wildBytes(random));
                else call(x, methods.get(random.nextInt(methods.size())), random);
                calls++;
            }
        }
        System.out.println("no throw in " + calls + " calls");
    }

    private static String wildBytes(Random random) {
        StringBuilder all = new StringBuilder();
        int size = random.nextInt(2001);
        String some = random.nextBoolean() ? "ab ;()+-*/<=019" : "";
        for (int i = 0; i < size; i++) {
            all.append(some.isEmpty() ? (char) random.nextInt(256) : some.charAt(random.nextInt(some.length())));
        }
        return all.toString();
    }

    private static void call(EdgePile x, Method method, Random random) throws ReflectiveOperationException {
        Class<?>[] types = method.getParameterTypes();
        Object[] values = new Object[types.length];
        for (int i = 0; i < types.length; i++) {
            if (types[i] == boolean.class) values[i] = random.nextBoolean();
            else values[i] = random.nextInt(3) == 0 ? EDGES[random.nextInt(EDGES.length)]
                : random.nextInt(20) == 0 ? random.nextInt() : random.nextInt(7);
        }
        method.invoke(x, values);
    }
}
