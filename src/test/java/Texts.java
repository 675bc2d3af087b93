import java.util.ArrayList;
import java.util.Collections;
import java.util.List;
import java.util.Random;

/** Random towns and laws that are right, and ways to spoil them. */
final class Texts {
    private final Random random;

    Texts(Random random) {
        this.random = random;
    }

    String town() {
        List<String> clauses = new ArrayList<>();
        if (random.nextInt(3) > 0) {
            clauses.add("s" + items("c9k9v9m99", 0));
        }
        int doors = random.nextBoolean() ? 20 : 6;
        for (int n = 2 + random.nextInt(5); n > 0; n--) {
            clauses.add("p" + items("c9k9v9s" + doors, 0));
        }
        for (int n = random.nextInt(6); n > 0; n--) {
            clauses.add("t" + items("w2n9g9", 1));
        }
        Collections.shuffle(clauses, random);
        return cut(blanks(String.join(";", clauses)));
    }

    /** Long towns that do not go onto the tape lose clauses from the end. */
    private String cut(String town) {
        String text = town;
        while (text.length() > 240 || random.nextInt(400) == 0) {
            text = text.substring(0, text.lastIndexOf(';') < 0 ? 0 : text.lastIndexOf(';'));
        }
        return text;
    }

    private String items(String bounds, int least) {
        List<String> items = new ArrayList<>();
        var found = java.util.regex.Pattern.compile("([a-z])([0-9]+)").matcher(bounds);
        while (found.find()) {
            if (random.nextInt(5) > 0) {
                int low = found.group(1).equals("g") ? least : 0;
                int number = low + random.nextInt(Integer.parseInt(found.group(2)) + 1 - low);
                items.add(found.group(1) + (random.nextInt(6) == 0 && number < 10 ? "0" : "") + number);
            }
        }
        Collections.shuffle(items, random);
        return String.join("", items);
    }

    /** Blanks between signs, never within numbers. */
    private String blanks(String text) {
        if (random.nextInt(4) > 0) {
            return text;
        }
        StringBuilder out = new StringBuilder();
        for (int i = 0; i < text.length(); i++) {
            boolean within = i > 0 && Character.isDigit(text.charAt(i)) && Character.isDigit(text.charAt(i - 1));
            if (!within && random.nextInt(5) == 0) {
                out.append(" ");
            }
            out.append(text.charAt(i));
        }
        return out.toString();
    }

    String law() {
        String text;
        do {
            StringBuilder out = new StringBuilder();
            for (int n = random.nextInt(3); n >= 0; n--) {
                out.append("y:").append(random.nextInt(4) > 0 ? condition(0) + "?" : "").append(sum(0)).append(n > 0 ? ";" : "");
            }
            text = blanks(out.toString());
        } while (text.length() > 240);
        return text;
    }

    private String condition(int depth) {
        StringBuilder out = new StringBuilder(unit(depth));
        while (random.nextInt(3) == 0) {
            out.append(random.nextBoolean() ? "&" : "|").append(unit(depth));
        }
        return out.toString();
    }

    private String unit(int depth) {
        int dice = random.nextInt(6);
        if (depth < 6 && dice == 0) {
            return "!" + unit(depth + 1);
        }
        if (depth < 6 && dice == 1) {
            return "(" + condition(depth + 1) + ")";
        }
        return sum(depth) + "=<>".charAt(random.nextInt(3)) + sum(depth);
    }

    private String sum(int depth) {
        StringBuilder out = new StringBuilder(atom(depth));
        while (random.nextInt(2) == 0) {
            out.append("+-*/".charAt(random.nextInt(4))).append(atom(depth));
        }
        return out.toString();
    }

    private String atom(int depth) {
        int dice = random.nextInt(10);
        if (depth < 6 && dice == 0) {
            return "[" + sum(depth + 1) + "]";
        }
        if (dice < 4) {
            int most = new int[] {10, 10, 10, 100, 10000}[random.nextInt(5)];
            return String.valueOf(random.nextInt(most));
        }
        return String.valueOf("ckvmhy".charAt(random.nextInt(6)));
    }

    String spoilt(String text) {
        StringBuilder out = new StringBuilder(text);
        String signs = "spty:;ckvmhwng0123456789 ()[]!?=<>&|+-*/\u00e9x";
        for (int n = random.nextInt(3); n >= 0 && out.length() > 0; n--) {
            int at = random.nextInt(out.length());
            char sign = random.nextBoolean() ? signs.charAt(random.nextInt(signs.length())) : text.charAt(random.nextInt(text.length()));
            switch (random.nextInt(5)) {
                case 0: out.setLength(at); break;
                case 1: out.deleteCharAt(at); break;
                case 2: out.setCharAt(at, sign); break;
                default: out.insert(at, sign);
            }
        }
        if (out.length() > 240) {
            out.setLength(240);
        }
        return out.toString();
    }
}
