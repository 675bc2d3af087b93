import java.lang.reflect.InvocationTargetException;
import java.lang.reflect.Method;
import java.util.ArrayList;
import java.util.Arrays;
import java.util.List;
import java.util.NoSuchElementException;
import java.util.Random;

/** Runs of random calls on the class and on the oracle: every answer must be alike. Same seeds, same runs. */
public final class OracleTest {
    private static final int RUNS = 900;
    private static final int CALLS = 480;
    private static final String[] ACTS = {"walks", "walks", "walks", "feigns", "feigns", "leaves", "give", "martinmas", "years", "undo", "image", "back", "fate", "law"};
    private static final String[] QUESTIONS = {"rule", "person", "person", "trouble", "status", "log", "appeal", "lead", "feigning",
        "tour", "given", "likings", "show", "work", "game", "game", "rests", "odds", "first", "shares", "most", "most", "count"};
    private final Random random;
    private final HangmanMayor real = new HangmanMayor();
    private final Oracle oracle = new Oracle();
    private final List<String> done = new ArrayList<>();

    private OracleTest(long seed) {
        random = new Random(seed);
    }

    public static void main(String[] args) throws Exception {
        for (int run = 0; run < RUNS && !Check.anyWrong(); run++) {
            new OracleTest(run).run();
        }
        for (int i = 0; i < 60000 && !Check.anyWrong(); i++) {
            compareFaults(new Texts(new Random(i)), i);
        }
        Check.finish();
    }

    /** The fault of a text with some signs changed. */
    private static void compareFaults(Texts texts, int i) {
        String town = texts.spoilt(texts.town());
        Check.due("fault(0) of " + town, Check.fault(0, town), Oracle.townFault(town));
        if (i % 6 == 0) {
            String law = texts.spoilt(texts.law());
            Check.due("fault(1) of " + law, Check.fault(1, law), Oracle.LawGrammar.fault(law));
        }
    }

    private void run() throws Exception {
        Texts texts = new Texts(random);
        boolean eager = random.nextBoolean();
        for (int i = 0; i < CALLS && !Check.anyWrong(); i++) {
            int dice = random.nextInt(100);
            if (dice == 0 || i == 3) {
                tell(random.nextInt(8) == 0 ? texts.spoilt(texts.town()) : texts.town(), 0);
            } else if (dice == 1) {
                tell(random.nextInt(8) == 0 ? texts.spoilt(texts.law()) : texts.law(), 1);
            } else {
                String[] names = dice < (eager ? 60 : 30) ? ACTS : QUESTIONS;
                call(names[random.nextInt(names.length)]);
            }
        }
        compareAll();
    }

    private void tell(String text, int sort) throws Exception {
        both("end", 0);
        byte[] bytes = text.getBytes(java.nio.charset.StandardCharsets.ISO_8859_1);
        for (int from = 0; from < bytes.length; from += 20) {
            int[] n = new int[5];
            for (int i = 0; i < 20 && from + i < bytes.length; i++) {
                n[i / 4] |= (bytes[from + i] & 255) << 24 - 8 * (i % 4);
            }
            done.add("feed(" + Arrays.toString(n) + ")");
            Check.due(this + " feed", real.feed(n[0], n[1], n[2], n[3], n[4]), oracle.feed(n));
        }
        both("fault", sort);
        both("text", sort);
    }

    private int small(int most) {
        int dice = random.nextInt(40);
        return dice == 0 ? -1 : dice == 1 ? most + 1 : dice == 2 ? random.nextInt() : random.nextInt(most + 1);
    }

    private void call(String name) throws Exception {
        switch (name) {
            case "walks": both(name, small(20)); break;
            case "feigns": both(name, small(5), small(1)); break;
            case "leaves": case "appeal": case "lead": case "feigning": case "first": both(name, small(5)); break;
            case "give": both(name, small(50)); break;
            case "martinmas": both(name, random.nextInt(3) > 0 ? 1 : small(60)); break;
            case "years": both(name, random.nextInt(3) > 0 ? small(4) : small(60), random.nextLong()); break;
            case "fate": both(name, small(9)); break;
            case "law": both(name, small(4) - 1); break;
            case "rule": both(name, small(3)); break;
            case "person": both(name, small(5), small(6)); break;
            case "trouble": both(name, small(4), small(2)); break;
            case "status": both(name, small(4)); break;
            case "log": both(name, small(60), small(2)); break;
            case "tour": both(name, small(63), small(1)); break;
            case "given": both(name, small(63), small(5), random.nextBoolean()); break;
            case "likings": both(name, random.nextBoolean() ? -1 : small(1000)); break;
            case "work": both(name, small(1)); break;
            case "game": both(name, small(5), small(5), small(3), small(3), small(1)); break;
            case "rests": both(name, small(5), small(5), small(5) - 1); break;
            case "odds": both(name, small(5), small(100)); break;
            case "shares": both(name, small(5), small(999)); break;
            case "most": both(name, small(11)); break;
            case "count": both(name, small(12)); break;
            default: both(name);
        }
    }

    /** Everything that can be seen without changing it. */
    private void compareAll() throws Exception {
        for (int i = -1; i <= 13; i++) {
            both("count", i);
            both("most", i);
            both("rule", i);
            both("status", i);
        }
        for (int p = -1; p <= 6; p++) {
            for (int what = 0; what <= 6; what++) {
                both("person", p, what);
            }
            for (String name : new String[] {"appeal", "lead", "feigning", "first"}) {
                both(name, p);
            }
            both("odds", p, 37);
            both("shares", p, 998);
        }
        for (int i = 0; i <= 60; i++) {
            for (int what = 0; what <= 2; what++) {
                both("log", i, what);
            }
        }
    }

    private void both(String name, Object... args) throws Exception {
        done.add(name + Arrays.toString(args));
        Class<?>[] types = new Class<?>[args.length];
        for (int i = 0; i < args.length; i++) {
            types[i] = args[i] instanceof Long ? long.class : args[i] instanceof Boolean ? boolean.class : int.class;
        }
        String what = Check.anyWrong() ? "" : name + Arrays.toString(args);
        long got = answer(HangmanMayor.class.getMethod(name, types), real, args);
        long want = answer(Oracle.class.getDeclaredMethod(name, types), oracle, args);
        if (got != want) {
            what = String.join("\n", done) + "\n" + what;
        }
        Check.due(what, got, want);
    }

    private static long answer(Method method, Object on, Object... args) throws Exception {
        try {
            Object answer = method.invoke(on, args);
            return answer instanceof Boolean b ? (b ? 1 : 0) : (Integer) answer;
        } catch (InvocationTargetException e) {
            if (e.getCause() instanceof NoSuchElementException) {
                return Check.MISSING;
            }
            throw e;
        }
    }
}
