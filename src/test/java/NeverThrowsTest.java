import java.lang.reflect.InvocationTargetException;
import java.lang.reflect.Method;
import java.util.Random;

/** Every public method with wild arguments in wild states: no call throws. */
public final class NeverThrowsTest {
    private static final int RUNS = 300;
    private static final int CALLS = 512;
    private static final int[] EDGES = {
        Integer.MIN_VALUE, Integer.MIN_VALUE + 1, -10, -9, -4, -3, -2, -1, 0, 1, 2, 3, 4, 5, 6, 7, 8, 9, 10, 11, 12, 13,
        15, 16, 17, 19, 20, 21, 30, 31, 40, 41, 60, 61, 95, 96, 97, 99, 100, 255, 256, 999, 1000,
        Integer.MAX_VALUE - 1, Integer.MAX_VALUE
    };
    private static final String LETTERS = "bpatxm0123456789mstdfo;z";

    public static void main(String[] args) throws IllegalAccessException {
        Method[] calls = LampOfTheSilent.class.getDeclaredMethods();
        for (int run = 0; run < RUNS; run++) {
            Random random = new Random(run);
            LampOfTheSilent x = run % 3 == 0 ? new LampOfTheSilent() : Due.mineOf("pt1f2;po3s4;".repeat(run % 3));
            for (int i = 0; i < CALLS; i++) {
                if (random.nextInt(3) == 0) {
                    x.letter(LETTERS.charAt(random.nextInt(LETTERS.length())));
                }
                ask(run, x, calls[random.nextInt(calls.length)], random);
            }
        }
        System.out.println(RUNS * CALLS + " calls, none threw");
    }

    private static void ask(int run, LampOfTheSilent x, Method call, Random random) throws IllegalAccessException {
        if (!java.lang.reflect.Modifier.isPublic(call.getModifiers())) {
            return;
        }
        Object[] arguments = new Object[call.getParameterCount()];
        for (int i = 0; i < arguments.length; i++) {
            int way = random.nextInt(4);
            arguments[i] = way == 0 ? random.nextInt() : way == 1 ? EDGES[random.nextInt(EDGES.length)] : random.nextInt(8);
        }
        try {
            call.invoke(x, arguments);
        } catch (InvocationTargetException thrown) {
            System.out.println("run " + run + ": " + call + " of " + java.util.List.of(arguments) + " threw " + thrown.getCause());
            System.exit(1);
        }
    }
}
