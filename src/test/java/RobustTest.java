import java.lang.reflect.InvocationTargetException;
import java.lang.reflect.Method;
import java.lang.reflect.Modifier;
import java.util.ArrayList;
import java.util.Arrays;
import java.util.Comparator;
import java.util.List;
import java.util.NoSuchElementException;
import java.util.Random;

/** Wild arguments in wild states: nothing but person's NoSuchElementException ever comes out. */
public final class RobustTest {
    private static final int[] EDGES = {0, 1, 2, 3, 5, 6, 7, 20, 21, 31, 32, 33, 40, 59, 60, 61, 63, 64, 99, 100, 101, 255, 999, 1000,
        -1, -2, -1000000, Integer.MAX_VALUE, Integer.MIN_VALUE, Integer.MAX_VALUE - 60, 1 << 30};

    public static void main(String[] args) throws Exception {
        List<Method> methods = new ArrayList<>();
        for (Method method : HangmanMayor.class.getDeclaredMethods()) {
            if (Modifier.isPublic(method.getModifiers())) {
                methods.add(method);
            }
        }
        methods.sort(Comparator.comparing(Method::getName));
        Check.due("methods of the face", methods.size(), 35);
        for (int run = 0; run < 2000; run++) {
            wildRun(methods, new Random(run));
        }
        Check.finish();
    }

    private static void wildRun(List<Method> methods, Random random) throws Exception {
        HangmanMayor t = new HangmanMayor();
        Texts texts = new Texts(random);
        int calls = 0;
        while (calls < 480) {
            if (random.nextInt(60) == 0) {
                t.end(0);
                Check.feed(t, random.nextBoolean() ? texts.town() : texts.law());
                t.text(random.nextInt(2));
                calls += 15;
            }
            call(t, methods.get(random.nextInt(methods.size())), random);
            calls++;
        }
    }

    private static void call(HangmanMayor t, Method method, Random random) throws Exception {
        Object[] args = new Object[method.getParameterCount()];
        for (int i = 0; i < args.length; i++) {
            int edge = EDGES[random.nextInt(random.nextBoolean() ? EDGES.length : 5)];
            Class<?> type = method.getParameterTypes()[i];
            args[i] = type == int.class ? (Object) edge : type == long.class ? (Object) ((long) edge << random.nextInt(40)) : (Object) (edge > 2);
        }
        try {
            method.invoke(t, args);
        } catch (InvocationTargetException e) {
            boolean due = method.getName().equals("person") && e.getCause() instanceof NoSuchElementException;
            Check.due(method.getName() + Arrays.toString(args) + " threw " + e.getCause(), due, true);
        }
    }
}
