import java.nio.charset.StandardCharsets;
import java.util.NoSuchElementException;

/** What the tests share: it counts what is not as due, and feeds texts. */
final class Check {
    static final int MISSING = Integer.MIN_VALUE;
    private static int checked = 0;
    private static int wrong = 0;
    private static String test = "";

    private Check() {
    }

    static void due(String what, long got, long want) {
        checked++;
        if (got != want) {
            wrong++;
            System.out.println(test + what + " answered " + got + ", due is " + want);
        }
    }

    static void due(String what, boolean got, boolean want) {
        due(what, got ? 1 : 0, want ? 1 : 0);
    }

    /** The test in which all that follows is looked at. */
    static void within(String name) {
        test = name.isEmpty() ? "" : name + ": ";
    }

    static void finish() {
        System.out.println(checked + " answers looked at, " + wrong + " not as due");
        if (wrong != 0 || checked == 0) {
            System.exit(1);
        }
    }

    static boolean anyWrong() {
        return wrong != 0;
    }

    /** What feed answers to the last bytes. */
    static int feed(HangmanMayor town, String text) {
        byte[] bytes = text.getBytes(StandardCharsets.ISO_8859_1);
        int answer = town.count(3);
        for (int from = 0; from < bytes.length; from += 20) {
            int[] numbers = new int[5];
            for (int i = 0; i < 20 && from + i < bytes.length; i++) {
                numbers[i / 4] |= (bytes[from + i] & 255) << 24 - 8 * (i % 4);
            }
            answer = town.feed(numbers[0], numbers[1], numbers[2], numbers[3], numbers[4]);
        }
        return answer;
    }

    static int fault(int sort, String text) {
        HangmanMayor town = new HangmanMayor();
        feed(town, text);
        return town.fault(sort);
    }

    static HangmanMayor town(String text) {
        HangmanMayor town = new HangmanMayor();
        tell(town, text);
        return town;
    }

    static void tell(HangmanMayor town, String text) {
        town.end(0);
        feed(town, text);
        if (town.text(0) < 2) {
            throw new IllegalArgumentException("no town: " + text);
        }
    }

    /** Adds a law, lets it hold. */
    static void rule(HangmanMayor town, String text) {
        town.end(0);
        feed(town, text);
        int law = town.text(1);
        if (law < 0 || !town.law(law)) {
            throw new IllegalArgumentException("no law: " + text);
        }
    }

    /** MISSING where NoSuchElementException is thrown. */
    static int person(HangmanMayor town, int person, int what) {
        try {
            return town.person(person, what);
        } catch (NoSuchElementException e) {
            return MISSING;
        }
    }

    static void times(int n, Runnable act) {
        for (int i = 0; i < n; i++) {
            act.run();
        }
    }
}
