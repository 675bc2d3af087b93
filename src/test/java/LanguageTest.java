import java.io.IOException;
import java.lang.reflect.Field;
import java.lang.reflect.Method;
import java.lang.reflect.Modifier;
import java.nio.file.Files;
import java.nio.file.Path;
import java.util.Arrays;
import java.util.List;
import java.util.Set;
import java.util.TreeSet;

/** What of LANGUAGE.md can be seen by a look at the source and the classes; run from the project's root. */
public final class LanguageTest {
    private static final String[] FACE = {"appeal", "back", "count", "end", "fate", "fault", "feed", "feigning", "feigns", "first",
        "game", "give", "given", "image", "law", "lead", "leaves", "likings", "log", "martinmas", "most", "odds", "person", "rests",
        "rule", "shares", "show", "status", "text", "tour", "trouble", "undo", "walks", "work", "years"};
    private static final String[] NEVER = {"->", "::", "catch", "finally", "synchronized", "assert ", "Exact(", "String.format", "System.out",
        "hashCode", "toString", "Random", "nanoTime", "currentTimeMillis", "\" +", "+ \"", "static {"};

    public static void main(String[] args) throws IOException {
        source();
        face();
        classes();
        Check.finish();
    }

    private static void source() throws IOException {
        List<String> lines = Files.readAllLines(Path.of("src/main/java/HangmanMayor.java"));
        for (String line : lines) {
            String code = line.strip().startsWith("/**") ? "" : line;
            for (String never : NEVER) {
                Check.due("'" + never + "' in: " + line, code.contains(never), false);
            }
            Check.due("signs 1 to 127 in: " + line, line.chars().allMatch(c -> c < 128), true);
            if (code.startsWith("import ")) {
                Check.due(line, code.equals("import java.util.Arrays;") || code.equals("import java.util.NoSuchElementException;"), true);
            }
        }
        Check.due("no package", lines.stream().anyMatch(l -> l.startsWith("package")), false);
    }

    private static void face() {
        Set<String> seen = new TreeSet<>();
        for (Method method : HangmanMayor.class.getDeclaredMethods()) {
            if (Modifier.isPublic(method.getModifiers())) {
                seen.add(method.getName());
            } else {
                Check.due(method + " is private", Modifier.isPrivate(method.getModifiers()), true);
                Check.due(method + " bears a public name", Arrays.asList(FACE).contains(method.getName()), false);
            }
        }
        Check.due("the face: " + seen, seen.equals(new TreeSet<>(Arrays.asList(FACE))), true);
        Check.due("constructors", HangmanMayor.class.getDeclaredConstructors().length, 1);
        for (Field field : HangmanMayor.class.getDeclaredFields()) {
            boolean constant = field.getName().equals("NONE") || field.getName().equals("HIDDEN");
            Check.due(field.toString(), Modifier.isPublic(field.getModifiers()), constant);
            Check.due(field.toString(), Modifier.isPrivate(field.getModifiers()), !constant);
        }
        Check.due("final", Modifier.isFinal(HangmanMayor.class.getModifiers()), true);
    }

    private static void classes() {
        Class<?>[] inside = HangmanMayor.class.getDeclaredClasses();
        Check.due("at most twelve classes", inside.length + 1 <= 12, true);
        look(HangmanMayor.class);
        for (Class<?> one : inside) {
            Check.due(one + " is static", Modifier.isStatic(one.getModifiers()), true);
            Check.due(one + " is not public", Modifier.isPublic(one.getModifiers()), false);
            look(one);
        }
    }

    private static void look(Class<?> one) {
        int fields = 0;
        for (Field field : one.getDeclaredFields()) {
            boolean isStatic = Modifier.isStatic(field.getModifiers());
            fields += isStatic ? 0 : 1;
            Check.due(field + " is final if static", !isStatic || Modifier.isFinal(field.getModifiers()), true);
        }
        Check.due(one + " has at most twenty fields", fields <= 20, true);
        for (Method method : one.getDeclaredMethods()) {
            Check.due(method + " has at most seven parameters", method.getParameterCount() <= 7, true);
            boolean nested = one != HangmanMayor.class;
            Check.due(method + " bears a public name", nested && Arrays.asList(FACE).contains(method.getName()), false);
        }
    }
}
