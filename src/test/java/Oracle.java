import java.util.ArrayList;
import java.util.Arrays;
import java.util.HashMap;
import java.util.HashSet;
import java.util.List;
import java.util.Map;
import java.util.NoSuchElementException;
import java.util.Set;

/** The document once more, slow and with the whole Java library, by other ways than the class goes: tries everything out. */
final class Oracle {
    static final int NONE = -1;
    static final int HIDDEN = -1000000;

    static final class World {
        int door, steps, harm, coins, byRest, byHim, year;
        int[] met, chain, asks;
        int[][] feigned;
        boolean[] away;
        List<int[]> log = new ArrayList<>();

        World copy() {
            World w = new World();
            w.door = door;
            w.steps = steps;
            w.harm = harm;
            w.coins = coins;
            w.byRest = byRest;
            w.byHim = byHim;
            w.year = year;
            w.met = met.clone();
            w.chain = chain.clone();
            w.asks = asks.clone();
            w.feigned = new int[][] {feigned[0].clone(), feigned[1].clone()};
            w.away = away.clone();
            w.log = new ArrayList<>(log);
            return w;
        }
    }

    record Given(int persons, int one, boolean is) {
    }

    private String tape = "";
    private final List<String> laws = new ArrayList<>();
    private int holds = NONE;
    private int fate = 1;
    private final int[] status = new int[5];
    private int[] rules;
    private List<int[]> people = new ArrayList<>();
    private List<int[]> troubles = new ArrayList<>();
    private World now;
    private World image;
    private final List<World> acts = new ArrayList<>();
    private final List<Given> givens = new ArrayList<>();

    // ---- texts

    int feed(int... numbers) {
        StringBuilder more = new StringBuilder();
        for (int number : numbers) {
            for (int k = 3; k >= 0; k--) {
                char c = (char) ((number >> (8 * k)) & 0xff);
                if (c != 0) {
                    more.append(c);
                }
            }
        }
        if (tape.length() + more.length() > 240) {
            return NONE;
        }
        tape += more;
        return tape.length();
    }

    boolean end(int n) {
        if (n < 0 || n > tape.length()) {
            return false;
        }
        tape = tape.substring(0, n);
        return true;
    }

    int fault(int sort) {
        return sort == 0 ? townFault(tape) : sort == 1 ? LawGrammar.fault(tape) : -2;
    }

    int text(int sort) {
        if (sort < 0 || sort > 1 || fault(sort) != NONE || sort == 1 && laws.size() == 4) {
            return NONE;
        }
        String told = tape.replace(" ", "");
        tape = "";
        if (sort == 1) {
            laws.add(told);
            return laws.size() - 1;
        }
        rules = new int[] {3, 3, 2, 20};
        people = new ArrayList<>();
        troubles = new ArrayList<>();
        for (String clause : told.split(";", -1)) {
            char kind = clause.charAt(0);
            if (kind == 's') {
                rules = items(clause, "ckvm", 3, 3, 2, 20);
            } else if (kind == 'p') {
                people.add(items(clause, "ckvs", 4, 4, 2, 0));
            } else {
                troubles.add(items(clause, "wng", 0, 5, 3));
            }
        }
        now = new World();
        now.coins = rules[3];
        now.met = new int[people.size()];
        now.chain = new int[people.size()];
        now.feigned = new int[2][people.size()];
        now.away = new boolean[people.size()];
        now.asks = troubles.stream().mapToInt(t -> t[1]).toArray();
        image = null;
        acts.clear();
        givens.clear();
        return people.size();
    }

    private static int[] items(String clause, String letters, int... usual) {
        int[] row = usual.clone();
        var found = java.util.regex.Pattern.compile("([a-z])([0-9]+)").matcher(clause.substring(1));
        while (found.find()) {
            row[letters.indexOf(found.group(1))] = Integer.parseInt(found.group(2));
        }
        return row;
    }

    /** Sign by sign, with a state of what may come next. */
    static int townFault(String text) {
        Map<Character, String> bounds = Map.of('s', "c09k09v09m099", 'p', "c09k09v09s020", 't', "w02n09g19");
        int[] left = {1, 6, 5};
        String kinds = "spt";
        char kind = 0;
        String seen = "";
        int want = 0; // 0 a clause's letter, 1 an item or ;, 2 a number
        int i = 0;
        while (i < text.length()) {
            char c = text.charAt(i);
            if (c == ' ') {
                i++;
            } else if (want == 0) {
                int k = kinds.indexOf(c);
                if (k < 0 || left[k]-- == 0) {
                    return i;
                }
                kind = c;
                seen = "";
                want = 1;
                i++;
            } else if (want == 1) {
                if (c == ';') {
                    want = 0;
                } else if (Character.isLetter(c) && seen.indexOf(c) < 0 && bounds.get(kind).indexOf(c) >= 0) {
                    seen += c;
                    want = 2;
                } else {
                    return i;
                }
                i++;
            } else {
                int from = i;
                while (i < text.length() && "0123456789".indexOf(text.charAt(i)) >= 0) {
                    i++;
                }
                if (i == from) {
                    return i;
                }
                if (i - from > 2) {
                    return from + 2;
                }
                int number = Integer.parseInt(text.substring(from, i));
                var m = java.util.regex.Pattern.compile(seen.charAt(seen.length() - 1) + "([01])([0-9]+)").matcher(bounds.get(kind));
                m.find();
                if (number < Integer.parseInt(m.group(1)) || number > Integer.parseInt(m.group(2))) {
                    return i - 1;
                }
                want = 1;
            }
        }
        return want == 1 && left[1] <= 4 ? NONE : text.length();
    }

    /** The law's grammar with its rules written out for each depth, and Earley's way to see whether a text can go on. */
    static final class LawGrammar {
        private static final Map<String, List<String[]>> RULES = new HashMap<>();

        static {
            rule("LAW", "B CLAUSES");
            rule("CLAUSES", "CLAUSE", "CLAUSE ; B CLAUSES");
            rule("CLAUSE", "y B : B SUM0", "y B : B COND0 ? B SUM0");
            for (int d = 0; d <= 6; d++) {
                rule("COND" + d, "TRUTH" + d, "TRUTH" + d + " | B COND" + d);
                rule("TRUTH" + d, "UNIT" + d, "UNIT" + d + " & B TRUTH" + d);
                rule("UNIT" + d, "SUM" + d + " REL SUM" + d);
                rule("SUM" + d, "TERM" + d, "TERM" + d + " PM B SUM" + d);
                rule("TERM" + d, "ATOM" + d, "ATOM" + d + " MD B TERM" + d);
                rule("ATOM" + d, "NUMBER B", "LETTER B");
                if (d < 6) {
                    rule("UNIT" + d, "! B UNIT" + (d + 1), "( B COND" + (d + 1) + " ) B");
                    rule("ATOM" + d, "[ B SUM" + (d + 1) + " ] B");
                }
            }
            rule("REL", "= B", "< B", "> B");
            rule("PM", "+", "-");
            rule("MD", "*", "/");
            rule("NUMBER", "D", "D D", "D D D", "D D D D");
            rule("D", "0", "1", "2", "3", "4", "5", "6", "7", "8", "9");
            rule("LETTER", "c", "k", "v", "m", "h", "y");
            rule("B", "", "_ B");
        }

        private static void rule(String head, String... bodies) {
            for (String body : bodies) {
                RULES.computeIfAbsent(head, h -> new ArrayList<>()).add(body.isEmpty() ? new String[0] : body.split(" "));
            }
        }

        private record Item(String head, String[] body, int dot, int from) {
            String key() {
                return head + System.identityHashCode(body) + "." + dot + "@" + from;
            }

            String next() {
                return dot < body.length ? body[dot] : null;
            }
        }

        static int fault(String text) {
            List<List<Item>> sets = new ArrayList<>();
            sets.add(new ArrayList<>());
            Set<String> seen = new HashSet<>();
            for (String[] body : RULES.get("LAW")) {
                put(sets.get(0), seen, new Item("LAW", body, 0, 0));
            }
            for (int i = 0; i <= text.length(); i++) {
                close(sets, i, seen);
                if (i == text.length()) {
                    break;
                }
                String sign = text.charAt(i) == ' ' ? "_" : String.valueOf(text.charAt(i));
                List<Item> next = new ArrayList<>();
                seen = new HashSet<>();
                for (Item item : sets.get(i)) {
                    if (sign.equals(item.next()) && !RULES.containsKey(sign)) {
                        put(next, seen, new Item(item.head, item.body, item.dot + 1, item.from));
                    }
                }
                if (next.isEmpty()) {
                    return i;
                }
                sets.add(next);
            }
            for (Item item : sets.get(text.length())) {
                if (item.head.equals("LAW") && item.next() == null) {
                    return NONE;
                }
            }
            return text.length();
        }

        private static void close(List<List<Item>> sets, int i, Set<String> seen) {
            List<Item> set = sets.get(i);
            for (int k = 0; k < set.size(); k++) {
                Item item = set.get(k);
                String next = item.next();
                if (next == null) {
                    List<Item> origin = sets.get(item.from);
                    for (int j = 0; j < origin.size(); j++) {
                        if (item.head.equals(origin.get(j).next())) {
                            Item old = origin.get(j);
                            put(set, seen, new Item(old.head, old.body, old.dot + 1, old.from));
                        }
                    }
                } else if (RULES.containsKey(next)) {
                    for (String[] body : RULES.get(next)) {
                        put(set, seen, new Item(next, body, 0, i));
                    }
                    if (next.equals("B")) {
                        put(set, seen, new Item(item.head, item.body, item.dot + 1, item.from));
                    }
                }
            }
        }

        private static void put(List<Item> set, Set<String> seen, Item item) {
            if (seen.add(item.key())) {
                set.add(item);
            }
        }
    }

    // ---- laws: a text is cut at its weakest sign

    private static long clamp(long value, long most) {
        return Math.max(-most, Math.min(most, value));
    }

    private static int weakest(String text, String signs) {
        int depth = 0;
        for (int i = text.length() - 1; i >= 0; i--) {
            char c = text.charAt(i);
            depth += c == ')' || c == ']' ? 1 : c == '(' || c == '[' ? -1 : 0;
            if (depth == 0 && signs.indexOf(c) >= 0) {
                return i;
            }
        }
        return -1;
    }

    private static long sum(String text, Map<Character, Integer> letters) {
        for (String signs : new String[] {"+-", "*/"}) {
            int at = weakest(text, signs);
            if (at >= 0) {
                long left = sum(text.substring(0, at), letters);
                long right = sum(text.substring(at + 1), letters);
                char c = text.charAt(at);
                long value = c == '+' ? left + right : c == '-' ? left - right : c == '*' ? left * right : right == 0 ? 0 : left / right;
                return clamp(value, 1000000);
            }
        }
        if (text.charAt(0) == '[') {
            return sum(text.substring(1, text.length() - 1), letters);
        }
        return letters.containsKey(text.charAt(0)) ? letters.get(text.charAt(0)) : Long.parseLong(text);
    }

    private static boolean holds(String text, Map<Character, Integer> letters) {
        for (String sign : new String[] {"|", "&"}) {
            int at = weakest(text, sign);
            if (at >= 0) {
                boolean left = holds(text.substring(0, at), letters);
                boolean right = holds(text.substring(at + 1), letters);
                return sign.equals("|") ? left || right : left && right;
            }
        }
        if (text.charAt(0) == '!') {
            return !holds(text.substring(1), letters);
        }
        if (text.charAt(0) == '(') {
            return holds(text.substring(1, text.length() - 1), letters);
        }
        int at = weakest(text, "=<>");
        long order = Long.compare(sum(text.substring(0, at), letters), sum(text.substring(at + 1), letters));
        return order == (text.charAt(at) == '=' ? 0 : text.charAt(at) == '<' ? -1 : 1);
    }

    private static long worth(String law, Map<Character, Integer> letters) {
        for (String clause : law.split(";")) {
            String body = clause.substring(2);
            int ask = body.indexOf('?');
            if (ask < 0 || holds(body.substring(0, ask), letters)) {
                return sum(body.substring(ask + 1), letters);
            }
        }
        return 0;
    }

    // ---- people

    private boolean isPerson(int p) {
        return p >= 0 && p < people.size();
    }

    private int seems(World w, int p, int trait) {
        return trait == 2 ? people.get(p)[2] : Math.min(9, people.get(p)[trait] + 2 * w.feigned[trait][p]);
    }

    private int appeal(World w, int p) {
        int c = seems(w, p, 0), k = seems(w, p, 1), v = seems(w, p, 2);
        long worth = rules[0] * c + rules[1] * k - rules[2] * v;
        if (holds != NONE) {
            worth = worth(laws.get(holds), Map.of('c', c, 'k', k, 'v', v, 'm', w.met[p], 'h', w.chain[p], 'y', w.year % 100));
        }
        return (int) clamp(worth, 99);
    }

    private boolean byRest(World w) {
        for (int p = 0; p < people.size(); p++) {
            if (!w.away[p] && w.met[p] > 0) {
                return false;
            }
        }
        return true;
    }

    private int picked(World w) {
        boolean rest = byRest(w);
        int best = NONE;
        int most = Integer.MIN_VALUE;
        for (int p = 0; p < people.size(); p++) {
            int much = rest ? people.get(p)[2] : appeal(w, p);
            if (!w.away[p] && (rest || w.met[p] > 0) && much > most) {
                best = p;
                most = much;
            }
        }
        return best;
    }

    int rule(int what) {
        return now == null || what < 0 || what > 3 ? NONE : what == 3 ? now.coins : rules[what];
    }

    int person(int p, int what) {
        if (!isPerson(p) || what < 0 || what > 6) {
            throw new NoSuchElementException();
        }
        return new int[] {seems(now, p, 0), seems(now, p, 1), seems(now, p, 2), people.get(p)[3], now.met[p],
            now.away[p] ? 1 : 0, now.chain[p]}[what];
    }

    int trouble(int t, int what) {
        if (t < 0 || t >= troubles.size() || what < 0 || what > 2) {
            return NONE;
        }
        return what == 1 ? now.asks[t] : troubles.get(t)[what];
    }

    boolean law(int law) {
        if (law < NONE || law >= laws.size()) {
            return false;
        }
        holds = law;
        return true;
    }

    // ---- acts

    private int refuse(int why) {
        status[why]++;
        return NONE;
    }

    private void keep() {
        acts.add(now.copy());
        if (acts.size() > 40) {
            acts.remove(0);
        }
    }

    private int walk(World w, int door) {
        int met = 0;
        for (int p = 0; p < people.size(); p++) {
            int at = people.get(p)[3];
            if (!w.away[p] && (at - door) * (at - w.door) <= 0) {
                met++;
                w.met[p] = Math.min(9, w.met[p] + 1);
            }
        }
        w.steps += Math.abs(door - w.door);
        w.door = door;
        return met;
    }

    int walks(int door) {
        if (now == null) {
            return refuse(0);
        }
        if (door < 0 || door > 20) {
            return refuse(1);
        }
        if (door == now.door) {
            return refuse(2);
        }
        if (now.steps + Math.abs(door - now.door) > 40) {
            return refuse(3);
        }
        keep();
        return walk(now, door);
    }

    int feigns(int p, int trait) {
        if (!isPerson(p)) {
            return refuse(0);
        }
        if (trait < 0 || trait > 1) {
            return refuse(1);
        }
        if (now.away[p] || now.feigned[trait][p] == 3) {
            return refuse(2);
        }
        if (now.coins == 0) {
            return refuse(3);
        }
        keep();
        now.coins--;
        now.feigned[trait][p]++;
        return seems(now, p, trait);
    }

    int leaves(int p) {
        if (!isPerson(p)) {
            return refuse(0);
        }
        if (now.coins < 2) {
            return refuse(3);
        }
        keep();
        now.coins -= 2;
        now.away[p] = !now.away[p];
        return now.away[p] ? 1 : 0;
    }

    int give(int n) {
        if (now == null) {
            return refuse(0);
        }
        if (n < 1 || n > 50 || n + now.coins > 999) {
            return refuse(1);
        }
        keep();
        return now.coins += n;
    }

    private void martinmasIn(World w) {
        int mayor = picked(w);
        boolean rest = mayor != NONE && byRest(w);
        if (mayor != NONE) {
            w.chain[mayor] = Math.min(99, w.chain[mayor] + 1);
            if (rest) {
                w.byRest++;
            } else {
                w.byHim++;
            }
        }
        int bits = 0;
        for (int t = 0; t < troubles.size(); t++) {
            if (mayor != NONE && people.get(mayor)[troubles.get(t)[0]] >= w.asks[t]) {
                bits += 1 << t;
                w.asks[t] = Math.min(9, w.asks[t] + 1);
            } else {
                w.harm = Math.min(9999, w.harm + troubles.get(t)[2]);
                w.asks[t] = Math.max(0, w.asks[t] - 1);
            }
        }
        w.log.add(0, new int[] {mayor, rest ? 1 : 0, bits});
        if (w.log.size() > 60) {
            w.log.remove(60);
        }
        w.coins = Math.min(999, w.coins + 3);
        w.year++;
        w.door = 0;
        w.steps = 0;
        Arrays.fill(w.met, 0);
        Arrays.fill(w.feigned[0], 0);
        Arrays.fill(w.feigned[1], 0);
    }

    int martinmas(int n) {
        if (now == null) {
            return refuse(0);
        }
        if (n < 1 || n > 60) {
            return refuse(1);
        }
        if (now.year + n > 999) {
            return refuse(4);
        }
        for (int i = 0; i < n; i++) {
            keep();
            martinmasIn(now);
        }
        return now.year;
    }

    boolean fate(int v) {
        if (v < 0 || v > 9 || v == fate) {
            return false;
        }
        fate = v;
        return true;
    }

    private long x;

    private int draw(int j) {
        x = x * 6364136223846793005L + 1442695040888963407L;
        return (int) Long.remainderUnsigned(x >>> 33, j);
    }

    int years(int n, long seed) {
        if (now == null || n < 1 || n > 60 || now.year + n > 999) {
            return NONE;
        }
        x = seed;
        for (int i = 0; i < n; i++) {
            keep();
            for (int k = 0; k < 3; k++) {
                int door = draw(21);
                if (door != now.door && now.steps + Math.abs(door - now.door) <= 40) {
                    walk(now, door);
                }
            }
            int p = draw(people.size());
            int trait = draw(2);
            if (!now.away[p] && now.feigned[trait][p] < 3) {
                now.feigned[trait][p]++;
            }
            if (draw(10) < fate) {
                int q = draw(people.size());
                now.away[q] = !now.away[q];
            }
            martinmasIn(now);
        }
        return now.year;
    }

    int status(int what) {
        return what < 0 || what > 4 ? NONE : status[what];
    }

    int undo() {
        if (acts.isEmpty()) {
            return NONE;
        }
        now = acts.remove(acts.size() - 1);
        return acts.size();
    }

    int log(int i, int what) {
        return now == null || i < 0 || i >= now.log.size() || what < 0 || what > 2 ? HIDDEN : now.log.get(i)[what];
    }

    // ---- questions

    int appeal(int p) {
        return isPerson(p) ? appeal(now, p) : HIDDEN;
    }

    int lead(int p) {
        if (!isPerson(p) || now.away[p] || now.met[p] == 0) {
            return HIDDEN;
        }
        int most = Integer.MIN_VALUE;
        for (int q = 0; q < people.size(); q++) {
            if (q != p && !now.away[q] && now.met[q] > 0) {
                most = Math.max(most, appeal(now, q));
            }
        }
        return most == Integer.MIN_VALUE ? 99 : appeal(now, p) - most;
    }

    int feigning(int p) {
        if (!isPerson(p) || now.away[p]) {
            return NONE;
        }
        int best = NONE;
        int fewest = 99;
        for (int a = 0; now.feigned[0][p] + a <= 3; a++) {
            for (int b = 0; now.feigned[1][p] + b <= 3; b++) {
                World w = now.copy();
                w.met[p] = Math.min(9, w.met[p] + 1);
                w.feigned[0][p] += a;
                w.feigned[1][p] += b;
                if (picked(w) == p && a + b < fewest) {
                    fewest = a + b;
                    best = 10 * a + b;
                }
            }
        }
        return best;
    }

    int tour(int persons, int what) {
        if (persons <= 0 || persons >= 1 << people.size() || what < 0 || what > 1) {
            return NONE;
        }
        for (int p = 0; p < people.size(); p++) {
            if ((persons >> p & 1) == 1 && now.away[p]) {
                return NONE;
            }
        }
        // a walk is walks of one door each: by door and who was met, wave by wave
        Set<Integer> wave = Set.of(now.door * 64);
        Set<Integer> been = new HashSet<>(wave);
        for (int steps = 1; steps < 100; steps++) {
            Set<Integer> next = new HashSet<>();
            for (int state : wave) {
                for (int door : new int[] {state / 64 - 1, state / 64 + 1}) {
                    if (door >= 0 && door <= 20) {
                        int met = state % 64;
                        for (int p = 0; p < people.size(); p++) {
                            if (people.get(p)[3] == door || people.get(p)[3] == state / 64) {
                                met |= 1 << p;
                            }
                        }
                        if (been.add(door * 64 + met)) {
                            next.add(door * 64 + met);
                        }
                    }
                }
            }
            int end = 99;
            for (int state : next) {
                if ((state & persons) == persons) {
                    end = Math.min(end, state / 64);
                }
            }
            if (end < 99) {
                return what == 0 ? steps : end;
            }
            wave = next;
        }
        throw new IllegalStateException("no tour");
    }

    int given(int persons, int one, boolean is) {
        if (persons <= 0 || persons >= 1 << people.size() || Integer.bitCount(persons) < 2 || !isPerson(one)
            || (persons >> one & 1) == 0 || givens.size() == 10) {
            return NONE;
        }
        givens.add(new Given(persons, one, is));
        return givens.size();
    }

    private int wouldPick(int liking, int persons) {
        int best = NONE;
        long most = Long.MIN_VALUE;
        for (int p = 0; p < people.size(); p++) {
            int[] one = people.get(p);
            long much = clamp(liking / 100 * one[0] + liking / 10 % 10 * one[1] - liking % 10 * one[2], 99);
            if ((persons >> p & 1) == 1 && much > most) {
                most = much;
                best = p;
            }
        }
        return best;
    }

    private List<Integer> fitting() {
        List<Integer> all = new ArrayList<>();
        for (int liking = 0; liking < 1000; liking++) {
            boolean fits = true;
            for (Given g : givens) {
                fits &= (wouldPick(liking, g.persons) == g.one) == g.is;
            }
            if (fits) {
                all.add(liking);
            }
        }
        return all;
    }

    int likings(int i) {
        if (now == null) {
            return NONE;
        }
        List<Integer> all = fitting();
        return i == NONE ? all.size() : i < 0 || i >= all.size() ? NONE : all.get(i);
    }

    int show() {
        if (now == null) {
            return NONE;
        }
        List<Integer> all = fitting();
        int best = NONE;
        int least = Integer.MAX_VALUE;
        for (int pair = 1; pair < 60 && !all.isEmpty(); pair++) {
            int low = pair / 10;
            int high = pair % 10;
            if (low < high && high < people.size()) {
                int yes = (int) all.stream().filter(l -> wouldPick(l, 1 << low | 1 << high) == low).count();
                if (Math.abs(all.size() - 2 * yes) < least) {
                    least = Math.abs(all.size() - 2 * yes);
                    best = pair;
                }
            }
        }
        return best;
    }

    int work(int what) {
        if (now == null || what < 0 || what > 1) {
            return NONE;
        }
        if (troubles.isEmpty()) {
            return what == 0 ? NONE : 0;
        }
        int best = NONE;
        int most = -1;
        for (int row = 0; row < Math.pow(10, troubles.size()); row++) {
            int grave = 0;
            int used = 0;
            int rest = row;
            for (int t = troubles.size() - 1; t >= 0 && grave >= 0; t--, rest /= 10) {
                int p = rest % 10;
                if (p != 9) {
                    boolean able = p < people.size() && !now.away[p] && (used >> p & 1) == 0
                        && people.get(p)[troubles.get(t)[0]] >= now.asks[t];
                    used |= 1 << p;
                    grave = able ? grave + troubles.get(t)[2] : -1000;
                }
            }
            if (grave > most) {
                most = grave;
                best = row;
            }
        }
        return what == 0 ? best : most;
    }

    private boolean isPair(int one, int other) {
        return isPerson(one) && isPerson(other) && one != other && !now.away[one] && !now.away[other];
    }

    int game(int one, int other, int x, int y, int what) {
        if (!isPair(one, other) || x < 0 || x > 3 || y < 0 || y > 3 || what < 0 || what > 1) {
            return HIDDEN;
        }
        World w = now.copy();
        w.met[one] = Math.min(9, w.met[one] + 1);
        w.met[other] = Math.min(9, w.met[other] + 1);
        w.feigned[0][one] = x;
        w.feigned[0][other] = y;
        int winner = picked(w);
        return what == 0 ? (winner == one ? 6 : 0) - x : (winner == other ? 6 : 0) - y;
    }

    int rests(int one, int other, int i) {
        if (!isPair(one, other)) {
            return NONE;
        }
        List<Integer> all = new ArrayList<>();
        for (int x = 0; x <= 3; x++) {
            for (int y = 0; y <= 3; y++) {
                boolean rest = true;
                for (int z = 0; z <= 3; z++) {
                    rest &= game(one, other, z, y, 0) <= game(one, other, x, y, 0);
                    rest &= game(one, other, x, z, 1) <= game(one, other, x, y, 1);
                }
                if (rest) {
                    all.add(10 * x + y);
                }
            }
        }
        return i == NONE ? all.size() : i < 0 || i >= all.size() ? NONE : all.get(i);
    }

    int odds(int p, int chance) {
        if (!isPerson(p) || chance < 0 || chance > 100) {
            return NONE;
        }
        long sum = 0;
        for (int met = 0; met < 1 << people.size(); met++) {
            World w = now.copy();
            long parts = 1000000000;
            for (int q = 0; q < people.size(); q++) {
                w.met[q] = met >> q & 1;
                if (!w.away[q]) {
                    long hit = Math.floorDiv(parts * chance, 100L);
                    parts = w.met[q] == 1 ? hit : parts - hit;
                } else if (w.met[q] == 1) {
                    parts = 0; // an away one is not split: count his half but once
                }
            }
            sum += picked(w) == p ? parts : 0;
        }
        return (int) sum;
    }

    int first(int p) {
        if (!isPerson(p)) {
            return NONE;
        }
        World w = now.copy();
        for (int n = 1; n <= 60; n++) {
            martinmasIn(w);
            if (w.chain[p] > now.chain[p]) {
                return n;
            }
        }
        return NONE;
    }

    int shares(int p, int c) {
        if (!isPerson(p) || c < 0 || c > 999) {
            return NONE;
        }
        int all = Arrays.stream(now.chain).sum();
        return all == 0 ? 0 : c * now.chain[p] / all;
    }

    private int most(int n, java.util.function.IntUnaryOperator of) {
        int best = NONE;
        for (int i = n - 1; i >= 0; i--) {
            if (best == NONE || of.applyAsInt(i) >= of.applyAsInt(best)) {
                best = i;
            }
        }
        return best;
    }

    private int bits(int n, java.util.function.IntPredicate of) {
        int bits = 0;
        for (int i = 0; i < n; i++) {
            bits |= of.test(i) ? 1 << i : 0;
        }
        return bits;
    }

    int most(int what) {
        if (now == null) {
            return NONE;
        }
        int n = people.size();
        switch (what) {
            case 0: return most(n, p -> appeal(now, p));
            case 1: return most(n, p -> now.chain[p]);
            case 2: return most(n, p -> people.get(p)[2]);
            case 3: return most(n, p -> people.get(p)[0]);
            case 4: return most(n, p -> people.get(p)[1]);
            case 5: return most(troubles.size(), t -> troubles.get(t)[2]);
            case 6: return picked(now);
            case 7: return bits(n, p -> now.met[p] > 0);
            case 8: return bits(n, p -> now.away[p]);
            case 9:
                int next = picked(now);
                return bits(troubles.size(), t -> next == NONE || people.get(next)[troubles.get(t)[0]] < now.asks[t]);
            case 10: return now.byRest;
            case 11: return now.byHim;
            default: return NONE;
        }
    }

    int image() {
        if (now == null) {
            return NONE;
        }
        image = now.copy();
        return now.year;
    }

    int back() {
        if (image == null) {
            return NONE;
        }
        now = image.copy();
        acts.clear();
        return now.year;
    }

    int count(int what) {
        World w = now;
        switch (what) {
            case 0: return people.size();
            case 1: return troubles.size();
            case 2: return laws.size();
            case 3: return tape.length();
            case 4: return holds;
            case 5: return w == null ? 0 : w.year;
            case 6: return w == null ? 0 : w.door;
            case 7: return w == null ? 0 : w.steps;
            case 8: return w == null ? 0 : w.harm;
            case 9: return fate;
            case 10: return givens.size();
            case 11: return w == null ? 0 : w.log.size();
            case 12: return acts.size();
            default: return HIDDEN;
        }
    }
}
