import java.lang.reflect.Method;
import java.lang.reflect.Modifier;
import java.util.ArrayList;
import java.util.Comparator;
import java.util.List;
import java.util.Random;

/** No call throws, whatever its arguments are, in whatever state, and beyond the 512th call too. */
public final class WildTest {
    private static final int[] EDGES = {Integer.MIN_VALUE, Integer.MIN_VALUE + 1, -1_000_001, -2, -1, 0, 0, 0, 1, 1, 2, 3, 4, 5, 6, 7, 8, 11,
        12, 20, 21, 30, 31, 32, 39, 40, 119, 120, 160, 161, 200, 201, 255, 256, 500, 2_000, 2_001, 1_000_000, 1_000_001, 1 << 30,
        (1 << 30) - 1, Integer.MAX_VALUE - 1, Integer.MAX_VALUE};
    private static final String[] TEXTS = {"pbuy pi11 now", "qb=75y;m{p0k;pphello}", "p", "t:w>0?1;b:l>1?1;d:n<9?1", "x:r+m+y+o-h",
        "d:500*[a+1]", "buy hello", "t:9999*9999*9999/[w-w]", "m{", "t:", "x:!(!(!(1=1)))?1"};

    public static void main(String[] args) throws Exception {
        List<Method> methods = new ArrayList<>();
        for (Method method : UnaskedLetters.class.getDeclaredMethods()) {
            if (Modifier.isPublic(method.getModifiers())) {
                methods.add(method);
            }
        }
        methods.sort(Comparator.comparing(Method::getName));
        for (int seed = 0; seed < 60; seed++) {
            Random random = new Random(seed);
            UnaskedLetters x = new UnaskedLetters();
            for (int i = 0; i < 3_000; i++) {
                if (random.nextInt(5) == 0) {
                    tape(x, TEXTS[random.nextInt(TEXTS.length)]);
                }
                call(x, methods.get(random.nextInt(methods.size())), random, seed);
            }
        }
        System.out.println("wild: no call threw");
    }

    private static void call(UnaskedLetters x, Method method, Random random, int seed) throws Exception {
        Class<?>[] types = method.getParameterTypes();
        Object[] args = new Object[types.length];
        StringBuilder told = new StringBuilder(method.getName());
        boolean small = random.nextInt(3) > 0;
        for (int i = 0; i < types.length; i++) {
            int number = small ? random.nextInt(6) : EDGES[random.nextInt(EDGES.length)];
            args[i] = types[i] == boolean.class ? random.nextBoolean() : (Object) number;
            told.append(' ').append(args[i]);
        }
        try {
            method.invoke(x, args);
        } catch (java.lang.reflect.InvocationTargetException thrown) {
            System.out.println("seed " + seed + ": " + told + " threw " + thrown.getCause());
            System.exit(1);
        }
    }

    private static void tape(UnaskedLetters x, String text) {
        x.end(0);
        int[] row = new int[10];
        for (int i = 0; i < 40; i++) {
            row[i / 4] = row[i / 4] << 8 | (i < text.length() ? text.charAt(i) : 0);
        }
        x.feed(row[0], row[1], row[2], row[3], row[4]);
        x.feed(row[5], row[6], row[7], row[8], row[9]);
    }
}
