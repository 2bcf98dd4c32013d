import java.lang.reflect.InvocationTargetException;
import java.lang.reflect.Method;
import java.lang.reflect.Modifier;
import java.util.Arrays;
import java.util.Comparator;
import java.util.Random;

/** No call may ever throw, for any numbers in any state: every method with numbers of every size. */
public final class AnyCallsTest {
    private static final int[] EDGES = {Integer.MIN_VALUE, Integer.MIN_VALUE + 1, -1000, -6, -2, -1, 0, 1, 2, 3, 5, 6, 7, 8, 9,
        10, 11, 16, 17, 20, 60, 99, 255, 256, 400, 401, 999, 1000, 1023, 1024, 1000000, 1000001, Integer.MAX_VALUE};
    private static final String[] SNIPPETS = {"burns ", "holds ", "bars", " if ", ";", "light ", "soak ", "swap ", " with ",
        "pass", " times ", "1", "20", "second", "long", "lit 3", "[", "]", "(", ")", "not ", " and ", " or ", "<", "=", "/0",
        "*1000", "+", "-", "gone", "latest", "kind", "knot", " ", "\0", "\377"};

    private static int drawn(Random r) {
        switch (r.nextInt(3)) {
            case 0: return EDGES[r.nextInt(EDGES.length)];
            case 1: return r.nextInt(12) - 1;
            default: return text(r);
        }
    }

    private static String ahead = "";

    private static int text(Random r) {
        while (ahead.length() < 4) {
            ahead += SNIPPETS[r.nextInt(SNIPPETS.length)];
        }
        int four = 0;
        for (int i = 0; i < 4; i++) {
            four = four << 8 | ahead.charAt(i) & 255;
        }
        ahead = ahead.substring(4);
        return four;
    }

    private static Object[] arguments(Method method, Random r) {
        Object[] arguments = new Object[method.getParameterCount()];
        for (int i = 0; i < arguments.length; i++) {
            arguments[i] = method.getName().equals("feed") ? text(r) : drawn(r);
        }
        return arguments;
    }

    public static void main(String[] args) throws IllegalAccessException {
        Method[] methods = Arrays.stream(FuseFrames.class.getDeclaredMethods())
                .filter(m -> Modifier.isPublic(m.getModifiers()))
                .sorted(Comparator.comparing(Method::getName)).toArray(Method[]::new);
        int wrong = 0;
        for (int run = 0; run < 2000; run++) {
            Random r = new Random(run);
            FuseFrames x = new FuseFrames();
            for (int call = 0; call < 512; call++) {
                if (call < 12) {
                    x.fuse(r.nextInt(8), r.nextInt(8), 1 + r.nextInt(60), r.nextInt(4));
                }
                Method method = methods[r.nextInt(methods.length)];
                Object[] arguments = arguments(method, r);
                try {
                    method.invoke(x, arguments);
                } catch (InvocationTargetException e) {
                    wrong++;
                    System.out.println("run " + run + ", call " + call + ": " + method.getName() + Arrays.toString(arguments)
                            + " threw " + e.getCause());
                }
            }
        }
        System.out.println(wrong == 0 ? "no call threw" : wrong + " calls threw");
        if (wrong != 0) {
            System.exit(1);
        }
    }
}
