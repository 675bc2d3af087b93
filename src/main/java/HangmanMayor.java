import java.util.Arrays;
import java.util.NoSuchElementException;

/** A town whose hangman picks the mayor. What each call promises stands in the document, by number. */
public final class HangmanMayor {
    public static final int NONE = -1;
    public static final int HIDDEN = -1000000;

    private static final int NO_SUCH_SORT = -2;
    private static final int TOWN_SORT = 0;
    private static final int LAW_SORT = 1;

    private static final int COURAGE = 0;
    private static final int KINDNESS = 1;
    private static final int VANITY = 2;

    private static final int MOST_BYTES = 240;
    private static final int MOST_PERSONS = 6;
    private static final int MOST_TROUBLES = 5;
    private static final int MOST_LAWS = 4;
    private static final int MOST_GIVEN = 10;
    private static final int MOST_GIFT = 50;
    private static final int MOST_AT_ONCE = 60;
    private static final int MOST_FATE = 9;
    private static final int MOST_SHARED = 999;

    private static final int LAST_DOOR = 20;
    private static final int LAST_YEAR = 999;
    private static final int MOST_STEPS = 40;
    private static final int MOST_MET = 9;
    private static final int MOST_FEIGNED = 3;
    private static final int MOST_TRAIT = 9;
    private static final int MOST_CHAIN = 99;
    private static final int MOST_COINS = 999;
    private static final int MOST_HARM = 9999;
    private static final int MOST_APPEAL = 99;
    private static final int MOST_LOGGED = 60;
    private static final int MOST_ACTS = 40;

    private static final int FEIGNING_COSTS = 1;
    private static final int LEAVING_COSTS = 2;
    private static final int MARTINMAS_GIVES = 3;

    /** The reasons for which acts are refused, as STATUS numbers them. */
    private static final int NO_SUCH_ONE = 0;
    private static final int OUT_OF_BOUNDS = 1;
    private static final int HINDERED = 2;
    private static final int TOO_DEAR = 3;
    private static final int TOO_LATE = 4;
    private static final int REASONS = 5;

    private final Tape tape = new Tape();
    private final TownReader townReader = new TownReader(tape);
    private final LawReader lawReader = new LawReader(tape);
    private final Law[] laws = new Law[MOST_LAWS];
    private final Town town = new Town();
    private final State now = new State();
    private final State kept = new State();
    private final Acts acts = new Acts();
    private final Judge judge = new Judge(town);
    private final Almanac almanac = new Almanac(town, judge);
    private final Questions questions = new Questions(town, judge);
    private final Guesses guesses = new Guesses(town);
    private final int[] refusals = new int[REASONS];
    private int lawCount = 0;
    private int holding = NONE;
    private int fortune = 1;
    private boolean hasImage = false;

    public HangmanMayor() {
        for (int i = 0; i < MOST_LAWS; i++) {
            laws[i] = new Law();
        }
    }

    public int feed(int a, int b, int c, int d, int e) {
        int more = Tape.bytesIn(a) + Tape.bytesIn(b) + Tape.bytesIn(c) + Tape.bytesIn(d) + Tape.bytesIn(e);
        if (tape.length + more > MOST_BYTES) {
            return NONE;
        }
        tape.add(a);
        tape.add(b);
        tape.add(c);
        tape.add(d);
        tape.add(e);
        return tape.length;
    }

    public boolean end(int n) {
        if (n < 0 || n > tape.length) {
            return false;
        }
        tape.length = n;
        return true;
    }

    public int fault(int sort) {
        if (sort == TOWN_SORT) {
            return townReader.read();
        }
        return sort == LAW_SORT ? lawReader.read() : NO_SUCH_SORT;
    }

    public int text(int sort) {
        if (sort == TOWN_SORT && townReader.read() == NONE) {
            town.copyFrom(townReader.draft);
            tape.length = 0;
            beginTown();
            return town.persons;
        }
        if (sort == LAW_SORT && lawCount < MOST_LAWS && lawReader.read() == NONE) {
            laws[lawCount].copyFrom(lawReader.draft);
            tape.length = 0;
            lawCount++;
            return lawCount - 1;
        }
        return NONE;
    }

    private void beginTown() {
        now.begin(town);
        acts.forget();
        guesses.forget();
        hasImage = false;
    }

    public int rule(int what) {
        if (!town.isTold() || what < 0 || what > 3) {
            return NONE;
        }
        return what == 3 ? now.cells[State.COINS] : town.liking(what);
    }

    public int person(int person, int what) throws NoSuchElementException {
        if (!town.hasPerson(person)) {
            throw new NoSuchElementException("no such person");
        }
        switch (what) {
            case 0:
                return judge.seeming(now, person, COURAGE);
            case 1:
                return judge.seeming(now, person, KINDNESS);
            case 2:
                return judge.seeming(now, person, VANITY);
            case 3:
                return town.door(person);
            case 4:
                return now.meetings(person);
            case 5:
                return now.isAway(person) ? 1 : 0;
            case 6:
                return now.chains(person);
            default:
                throw new NoSuchElementException("nothing such is known of a person");
        }
    }

    public int trouble(int trouble, int what) {
        if (!town.hasTrouble(trouble)) {
            return NONE;
        }
        switch (what) {
            case 0:
                return town.asksFor(trouble);
            case 1:
                return now.asks(trouble);
            case 2:
                return town.gravity(trouble);
            default:
                return NONE;
        }
    }

    public boolean law(int law) {
        if (law != NONE && (law < 0 || law >= lawCount)) {
            return false;
        }
        holding = law;
        judge.ruling = law == NONE ? null : laws[law];
        return true;
    }

    public int walks(int door) {
        if (!town.isTold()) {
            return refuse(NO_SUCH_ONE);
        }
        if (door < 0 || door > LAST_DOOR) {
            return refuse(OUT_OF_BOUNDS);
        }
        if (now.cells[State.DOOR] == door) {
            return refuse(HINDERED);
        }
        if (!almanac.canReach(now, door)) {
            return refuse(TOO_DEAR);
        }
        acts.keep(now);
        return almanac.walkTo(now, door);
    }

    public int feigns(int person, int trait) {
        if (!town.hasPerson(person)) {
            return refuse(NO_SUCH_ONE);
        }
        if (trait != COURAGE && trait != KINDNESS) {
            return refuse(OUT_OF_BOUNDS);
        }
        if (!now.canFeign(person, trait)) {
            return refuse(HINDERED);
        }
        if (now.cells[State.COINS] < FEIGNING_COSTS) {
            return refuse(TOO_DEAR);
        }
        acts.keep(now);
        now.cells[State.COINS] -= FEIGNING_COSTS;
        now.setFeigned(person, trait, now.feigned(person, trait) + 1);
        return judge.seeming(now, person, trait);
    }

    public int leaves(int person) {
        if (!town.hasPerson(person)) {
            return refuse(NO_SUCH_ONE);
        }
        if (now.cells[State.COINS] < LEAVING_COSTS) {
            return refuse(TOO_DEAR);
        }
        acts.keep(now);
        now.cells[State.COINS] -= LEAVING_COSTS;
        now.move(person);
        return now.isAway(person) ? 1 : 0;
    }

    public int give(int n) {
        if (!town.isTold()) {
            return refuse(NO_SUCH_ONE);
        }
        if (n < 1 || n > MOST_GIFT || now.cells[State.COINS] + n > MOST_COINS) {
            return refuse(OUT_OF_BOUNDS);
        }
        acts.keep(now);
        now.cells[State.COINS] += n;
        return now.cells[State.COINS];
    }

    public int martinmas(int n) {
        if (!town.isTold()) {
            return refuse(NO_SUCH_ONE);
        }
        if (n < 1 || n > MOST_AT_ONCE) {
            return refuse(OUT_OF_BOUNDS);
        }
        if (now.cells[State.YEAR] + n > LAST_YEAR) {
            return refuse(TOO_LATE);
        }
        for (int i = 0; i < n; i++) {
            acts.keep(now);
            almanac.endYear(now);
        }
        return now.cells[State.YEAR];
    }

    public boolean fate(int v) {
        if (v < 0 || v > MOST_FATE || v == fortune) {
            return false;
        }
        fortune = v;
        return true;
    }

    public int years(int n, long seed) {
        if (!town.isTold() || n < 1 || n > MOST_AT_ONCE || now.cells[State.YEAR] + n > LAST_YEAR) {
            return NONE;
        }
        almanac.drawn = seed;
        for (int i = 0; i < n; i++) {
            acts.keep(now);
            almanac.liveYear(now, fortune);
        }
        return now.cells[State.YEAR];
    }

    public int status(int what) {
        return what < 0 || what >= REASONS ? NONE : refusals[what];
    }

    private int refuse(int reason) {
        refusals[reason]++;
        return NONE;
    }

    public int undo() {
        if (acts.held == 0) {
            return NONE;
        }
        acts.takeBack(now);
        return acts.held;
    }

    public int log(int i, int what) {
        if (i < 0 || i >= now.logLength()) {
            return HIDDEN;
        }
        switch (what) {
            case 0:
                return now.loggedMayor(i);
            case 1:
                return now.loggedRest(i);
            case 2:
                return now.loggedTroubles(i);
            default:
                return HIDDEN;
        }
    }

    public int appeal(int person) {
        return town.hasPerson(person) ? judge.appealOf(now, person) : HIDDEN;
    }

    public int lead(int person) {
        if (!isInTown(person) || now.meetings(person) == 0) {
            return HIDDEN;
        }
        return questions.leadOf(now, person);
    }

    public int feigning(int person) {
        return isInTown(person) ? questions.leastFeigning(now, person) : NONE;
    }

    public int tour(int persons, int what) {
        if (!isGroup(persons) || (persons & now.cells[State.AWAY]) != 0) {
            return NONE;
        }
        if (what == 0) {
            return questions.tourSteps(now, persons);
        }
        return what == 1 ? questions.tourEnd(now, persons) : NONE;
    }

    public int given(int persons, int one, boolean is) {
        if (!isGroup(persons) || Integer.bitCount(persons) < 2) {
            return NONE;
        }
        if (!town.hasPerson(one) || (persons >> one & 1) == 0 || guesses.told == MOST_GIVEN) {
            return NONE;
        }
        guesses.add(persons, one, is);
        return guesses.told;
    }

    public int likings(int i) {
        if (!town.isTold()) {
            return NONE;
        }
        if (i == NONE) {
            return guesses.fitting;
        }
        return i < 0 || i >= guesses.fitting ? NONE : guesses.fits[i];
    }

    public int show() {
        return town.isTold() && guesses.fitting > 0 ? guesses.bestPair() : NONE;
    }

    public int work(int what) {
        if (!town.isTold() || what < 0 || what > 1) {
            return NONE;
        }
        questions.shareOut(now);
        if (what == 1) {
            return questions.bestGravity;
        }
        return town.troubles == 0 ? NONE : questions.bestRow;
    }

    public int game(int one, int other, int x, int y, int what) {
        if (!isPair(one, other) || what < 0 || what > 1) {
            return HIDDEN;
        }
        if (x < 0 || x > MOST_FEIGNED || y < 0 || y > MOST_FEIGNED) {
            return HIDDEN;
        }
        questions.play(now, one, other);
        return what == 0 ? questions.gain(one, x, x, y) : questions.gain(other, y, x, y);
    }

    public int rests(int one, int other, int i) {
        if (!isPair(one, other) || i < NONE) {
            return NONE;
        }
        questions.play(now, one, other);
        int found = 0;
        for (int x = 0; x <= MOST_FEIGNED; x++) {
            for (int y = 0; y <= MOST_FEIGNED; y++) {
                if (questions.isRest(one, other, x, y)) {
                    if (found == i) {
                        return 10 * x + y;
                    }
                    found++;
                }
            }
        }
        return i == NONE ? found : NONE;
    }

    public int odds(int person, int chance) {
        if (!town.hasPerson(person) || chance < 0 || chance > 100) {
            return NONE;
        }
        return now.isAway(person) ? 0 : questions.oddsOf(now, person, chance);
    }

    public int first(int person) {
        return town.hasPerson(person) ? questions.firstOf(now, person) : NONE;
    }

    public int shares(int person, int c) {
        if (!town.hasPerson(person) || c < 0 || c > MOST_SHARED) {
            return NONE;
        }
        int all = 0;
        for (int i = 0; i < town.persons; i++) {
            all += now.chains(i);
        }
        return all == 0 ? 0 : c * now.chains(person) / all;
    }

    public int most(int what) {
        if (!town.isTold()) {
            return NONE;
        }
        switch (what) {
            case 0:
                return questions.favourite(now);
            case 1:
                return questions.chained(now);
            case 2:
                return town.mostOf(VANITY);
            case 3:
                return town.mostOf(COURAGE);
            case 4:
                return town.mostOf(KINDNESS);
            case 5:
                return town.gravest();
            case 6:
                return judge.picked(now);
            case 7:
                return now.metBits();
            case 8:
                return now.cells[State.AWAY];
            case 9:
                return town.allTroubles() & ~almanac.metBy(now, judge.picked(now));
            case 10:
                return now.cells[State.BY_REST];
            case 11:
                return now.cells[State.BY_HIM];
            default:
                return NONE;
        }
    }

    public int image() {
        if (!town.isTold()) {
            return NONE;
        }
        kept.copyFrom(now);
        hasImage = true;
        return now.cells[State.YEAR];
    }

    public int back() {
        if (!hasImage) {
            return NONE;
        }
        now.copyFrom(kept);
        acts.forget();
        return now.cells[State.YEAR];
    }

    public int count(int what) {
        switch (what) {
            case 0:
                return town.persons;
            case 1:
                return town.troubles;
            case 2:
                return lawCount;
            case 3:
                return tape.length;
            case 4:
                return holding;
            case 5:
                return now.cells[State.YEAR];
            case 6:
                return now.cells[State.DOOR];
            case 7:
                return now.cells[State.STEPS];
            case 8:
                return now.cells[State.HARM];
            case 9:
                return fortune;
            case 10:
                return guesses.told;
            case 11:
                return now.logLength();
            case 12:
                return acts.held;
            default:
                return HIDDEN;
        }
    }

    private boolean isInTown(int person) {
        return town.hasPerson(person) && !now.isAway(person);
    }

    private boolean isPair(int one, int other) {
        return one != other && isInTown(one) && isInTown(other);
    }

    private boolean isGroup(int persons) {
        return persons > 0 && persons <= town.allPersons();
    }

    private static int within(long value, int most) {
        if (value > most) {
            return most;
        }
        return value < -most ? -most : (int) value;
    }

    /** Of some places (bits) in a row the one with the highest number, of several the lowest place; NONE of no place. */
    private static int highest(int[] row, int places) {
        int best = NONE;
        for (int i = 0; i < row.length; i++) {
            if ((places >> i & 1) == 1 && (best == NONE || row[i] > row[best])) {
                best = i;
            }
        }
        return best;
    }

    /** The bytes fed so far, and the place at which a reader of them stands: never on a blank. */
    private static final class Tape {
        private static final int END = -1;
        private static final char BLANK = ' ';

        private final char[] signs = new char[MOST_BYTES];
        /** For each place the first one from there on that has no blank. */
        private final int[] onward = new int[MOST_BYTES + 1];
        private int length = 0;
        private int place = 0;
        private int lastDigit = 0;

        static int bytesIn(int number) {
            int bytes = 0;
            for (int shift = 24; shift >= 0; shift -= 8) {
                if ((number >>> shift & 255) != 0) {
                    bytes++;
                }
            }
            return bytes;
        }

        void add(int number) {
            for (int shift = 24; shift >= 0; shift -= 8) {
                int sign = number >>> shift & 255;
                if (sign != 0 && length < MOST_BYTES) {
                    signs[length] = (char) sign;
                    length++;
                }
            }
        }

        void rewind() {
            onward[length] = length;
            for (int i = length - 1; i >= 0; i--) {
                onward[i] = signs[i] == BLANK ? onward[i + 1] : i;
            }
            place = onward[0];
        }

        int sign() {
            return place < length ? signs[place] : END;
        }

        boolean takes(char sign) {
            if (place >= length || signs[place] != sign) {
                return false;
            }
            place = onward[place + 1];
            return true;
        }

        /** The number here; NONE, with the place at what is wrong, if there is none or it has too many digits. */
        int number(int mostDigits) {
            int from = place;
            int value = 0;
            while (place < length && signs[place] >= '0' && signs[place] <= '9') {
                if (place - from == mostDigits) {
                    return NONE;
                }
                value = 10 * value + signs[place] - '0';
                place++;
            }
            if (place == from) {
                return NONE;
            }
            lastDigit = place - 1;
            place = onward[place];
            return value;
        }
    }

    /** A town as it was told: rows of four items, the rules first, then the persons, then the troubles. */
    private static final class Town {
        private static final int ITEMS = 4;
        private static final int PERSON_ROW = 1;
        private static final int TROUBLE_ROW = PERSON_ROW + MOST_PERSONS;
        private static final int ROWS = TROUBLE_ROW + MOST_TROUBLES;

        private final int[] items = new int[ROWS * ITEMS];
        private int persons = 0;
        private int troubles = 0;

        void copyFrom(Town other) {
            System.arraycopy(other.items, 0, items, 0, items.length);
            persons = other.persons;
            troubles = other.troubles;
        }

        boolean isTold() {
            return persons > 0;
        }

        boolean hasPerson(int person) {
            return person >= 0 && person < persons;
        }

        boolean hasTrouble(int trouble) {
            return trouble >= 0 && trouble < troubles;
        }

        int allPersons() {
            return (1 << persons) - 1;
        }

        int allTroubles() {
            return (1 << troubles) - 1;
        }

        int liking(int trait) {
            return items[trait];
        }

        int coins() {
            return items[3];
        }

        int trait(int person, int trait) {
            return items[(PERSON_ROW + person) * ITEMS + trait];
        }

        int door(int person) {
            return items[(PERSON_ROW + person) * ITEMS + 3];
        }

        int asksFor(int trouble) {
            return items[(TROUBLE_ROW + trouble) * ITEMS];
        }

        int asksAtFirst(int trouble) {
            return items[(TROUBLE_ROW + trouble) * ITEMS + 1];
        }

        int gravity(int trouble) {
            return items[(TROUBLE_ROW + trouble) * ITEMS + 2];
        }

        int mostOf(int trait) {
            return mostOfThese(trait, allPersons());
        }

        /** Of some persons (bits) the one with most of a trait, of several the lowest; NONE of nobody. */
        int mostOfThese(int trait, int these) {
            int best = NONE;
            for (int i = 0; i < persons; i++) {
                if ((these >> i & 1) == 1 && (best == NONE || trait(i, trait) > trait(best, trait))) {
                    best = i;
                }
            }
            return best;
        }

        int gravest() {
            int best = NONE;
            for (int i = 0; i < troubles; i++) {
                if (best == NONE || gravity(i) > gravity(best)) {
                    best = i;
                }
            }
            return best;
        }
    }

    /** Reads the tape as a town, into a draft, so that a fault leaves the town as it was. */
    private static final class TownReader {
        private static final String KINDS = "spt";
        private static final int[] MOST_CLAUSES = {1, MOST_PERSONS, MOST_TROUBLES};
        private static final int[] FIRST_ROW = {0, Town.PERSON_ROW, Town.TROUBLE_ROW};
        private static final int LEAST_PERSONS = 2;
        private static final int MOST_DIGITS = 2;
        private static final int[] LETTERS = {'c', 'k', 'v', 'm', 'c', 'k', 'v', 's', 'w', 'n', 'g', 0};
        private static final int[] LEAST = {0, 0, 0, 0, 0, 0, 0, 0, 0, 0, 1, 0};
        private static final int[] MOST = {9, 9, 9, 99, 9, 9, 9, LAST_DOOR, 2, 9, 9, 0};
        private static final int[] USUAL = {3, 3, 2, 20, 4, 4, 2, 0, 0, 5, 3, 0};

        private final Tape tape;
        private final Town draft = new Town();
        private final int[] clauses = new int[3];

        TownReader(Tape tape) {
            this.tape = tape;
        }

        /** The fault, or NONE: the draft is the town then. */
        int read() {
            Arrays.fill(clauses, 0);
            startRow(0, 0);
            tape.rewind();
            boolean more = true;
            for (int i = 0; more && i < MOST_BYTES; i++) {
                if (!readClause()) {
                    return tape.place;
                }
                more = tape.takes(';');
            }
            draft.persons = clauses[1];
            draft.troubles = clauses[2];
            boolean whole = tape.sign() == Tape.END && clauses[1] >= LEAST_PERSONS;
            return whole ? NONE : tape.place;
        }

        private boolean readClause() {
            int sign = tape.sign();
            int kind = sign == Tape.END ? NONE : KINDS.indexOf((char) sign);
            if (kind < 0 || kind >= clauses.length || clauses[kind] >= MOST_CLAUSES[kind]) {
                return false;
            }
            tape.takes((char) sign);
            int row = FIRST_ROW[kind] + clauses[kind];
            clauses[kind]++;
            startRow(kind, row);
            return readItems(kind, row);
        }

        private void startRow(int kind, int row) {
            System.arraycopy(USUAL, kind * Town.ITEMS, draft.items, row * Town.ITEMS, Town.ITEMS);
        }

        /** A letter that is none, or was there, ends the items: whoever goes on behind them finds it wrong. */
        private boolean readItems(int kind, int row) {
            int seen = 0;
            for (int i = 0; i < Town.ITEMS; i++) {
                int item = itemOf(kind, tape.sign());
                if (item == NONE || (seen >> item & 1) == 1) {
                    return true;
                }
                seen |= 1 << item;
                tape.takes((char) tape.sign());
                int number = tape.number(MOST_DIGITS);
                if (number == NONE) {
                    return false;
                }
                int bound = kind * Town.ITEMS + item;
                if (number < LEAST[bound] || number > MOST[bound]) {
                    tape.place = tape.lastDigit;
                    return false;
                }
                draft.items[row * Town.ITEMS + item] = number;
            }
            return true;
        }

        private static int itemOf(int kind, int sign) {
            for (int i = 0; i < Town.ITEMS; i++) {
                if (sign > 0 && LETTERS[kind * Town.ITEMS + i] == sign) {
                    return i;
                }
            }
            return NONE;
        }
    }

    /** A law, as a row of cells for a machine with a stack: operands first, then the sign that joins them. */
    private static final class Law {
        private static final String LETTERS = "ckvmhy";
        /** Every cell comes from a byte of its own. */
        private static final int MOST_CELLS = MOST_BYTES;
        private static final int MOST_STACK = 32;
        private static final int MOST_NUMBER = 1000000;
        /** Cells below are numbers. */
        private static final int LETTER = 10000;
        private static final int SIGN = 11000;
        /** Cells from here on tell where to go on if the condition does not hold. */
        private static final int SKIP = 12000;
        private static final int ANSWER = SIGN + ';';

        private final int[] cells = new int[MOST_CELLS];
        private final int[] stack = new int[MOST_STACK];
        private int size = 0;

        void copyFrom(Law other) {
            System.arraycopy(other.cells, 0, cells, 0, other.size);
            size = other.size;
        }

        void add(int cell) {
            if (size < MOST_CELLS) {
                cells[size] = cell;
                size++;
            }
        }

        /** The sign that joins what stands ahead of it; NONE joins nothing. */
        void addSign(int sign) {
            if (sign != NONE) {
                add(SIGN + sign);
            }
        }

        void skipToEnd(int place) {
            if (place >= 0 && place < size) {
                cells[place] = SKIP + size;
            }
        }

        int worth(int[] letters) {
            int top = 0;
            for (int at = 0; at < size; at++) {
                int cell = cells[at];
                if (cell < SIGN) {
                    int letter = cell - LETTER;
                    if (top < MOST_STACK && letter < letters.length) {
                        stack[top] = letter < 0 ? cell : letters[letter];
                        top++;
                    }
                } else if (top < 1) {
                    return 0;
                } else if (cell >= SKIP) {
                    top--;
                    at = stack[top] == 0 && cell - SKIP > at ? cell - SKIP - 1 : at;
                } else if (cell == ANSWER) {
                    return stack[top - 1];
                } else if (cell == SIGN + '!') {
                    stack[top - 1] = 1 - stack[top - 1];
                } else if (top > 1) {
                    top--;
                    stack[top - 1] = within(join(cell - SIGN, stack[top - 1], stack[top]), MOST_NUMBER);
                }
            }
            return 0;
        }

        private static long join(int sign, long left, long right) {
            switch (sign) {
                case '+':
                    return left + right;
                case '-':
                    return left - right;
                case '*':
                    return left * right;
                case '/':
                    return right == 0 ? 0 : left / right;
                case '=':
                    return left == right ? 1 : 0;
                case '<':
                    return left < right ? 1 : 0;
                case '>':
                    return left > right ? 1 : 0;
                case '&':
                    return left & right;
                default:
                    return left | right;
            }
        }
    }

    /** Reads the tape as a law, into a draft. Where a method answers false, the tape stands at the fault. */
    private static final class LawReader {
        private static final int MOST_WITHIN = 6;
        private static final int MOST_DIGITS = 4;

        private final Tape tape;
        private final Law draft = new Law();

        LawReader(Tape tape) {
            this.tape = tape;
        }

        /** The fault, or NONE: the draft is the law then. */
        int read() {
            draft.size = 0;
            tape.rewind();
            boolean more = true;
            for (int i = 0; more && i < MOST_BYTES; i++) {
                if (!readClause()) {
                    return tape.place;
                }
                more = tape.takes(';');
            }
            return tape.sign() == Tape.END ? NONE : tape.place;
        }

        private boolean readClause() {
            if (!tape.takes('y') || !tape.takes(':')) {
                return false;
            }
            boolean isSum = tape.sign() != '!' && tape.sign() != '(';
            if (isSum && !readSum(0)) {
                return false;
            }
            if (isSum && !isRelation(tape.sign())) {
                draft.add(Law.ANSWER);
                return true;
            }
            if (!readCondition(0, isSum) || !tape.takes('?')) {
                return false;
            }
            int skip = draft.size;
            draft.add(Law.SKIP);
            if (!readSum(0)) {
                return false;
            }
            draft.add(Law.ANSWER);
            draft.skipToEnd(skip);
            return true;
        }

        /** Begun: the first sum of the first unit was read already, as it might have been no condition's. */
        private boolean readCondition(int depth, boolean begun) {
            boolean sumRead = begun;
            for (int truths = 0; truths < MOST_BYTES; truths++) {
                for (int units = 0; units < MOST_BYTES; units++) {
                    if (!readUnit(depth, sumRead)) {
                        return false;
                    }
                    sumRead = false;
                    if (units > 0) {
                        draft.addSign('&');
                    }
                    if (!tape.takes('&')) {
                        break;
                    }
                }
                if (truths > 0) {
                    draft.addSign('|');
                }
                if (!tape.takes('|')) {
                    return true;
                }
            }
            return false;
        }

        private boolean readUnit(int depth, boolean sumRead) {
            if (!sumRead && tape.sign() == '!') {
                boolean read = depth < MOST_WITHIN && tape.takes('!') && readUnit(depth + 1, false);
                draft.addSign('!');
                return read;
            }
            if (!sumRead && tape.sign() == '(') {
                return depth < MOST_WITHIN && tape.takes('(') && readCondition(depth + 1, false) && tape.takes(')');
            }
            if (!sumRead && !readSum(depth)) {
                return false;
            }
            int relation = tape.sign();
            if (!isRelation(relation)) {
                return false;
            }
            tape.takes((char) relation);
            boolean read = readSum(depth);
            draft.addSign(relation);
            return read;
        }

        private boolean readSum(int depth) {
            int joint = NONE;
            for (int terms = 0; terms < MOST_BYTES; terms++) {
                int factorJoint = NONE;
                for (int atoms = 0; atoms < MOST_BYTES; atoms++) {
                    if (!readAtom(depth)) {
                        return false;
                    }
                    draft.addSign(factorJoint);
                    factorJoint = tape.sign();
                    if (factorJoint != '*' && factorJoint != '/') {
                        break;
                    }
                    tape.takes((char) factorJoint);
                }
                draft.addSign(joint);
                joint = tape.sign();
                if (joint != '+' && joint != '-') {
                    return true;
                }
                tape.takes((char) joint);
            }
            return false;
        }

        private boolean readAtom(int depth) {
            int sign = tape.sign();
            if (sign == '[') {
                return depth < MOST_WITHIN && tape.takes('[') && readSum(depth + 1) && tape.takes(']');
            }
            int letter = sign == Tape.END ? NONE : Law.LETTERS.indexOf((char) sign);
            if (letter >= 0) {
                tape.takes((char) sign);
                draft.add(Law.LETTER + letter);
                return true;
            }
            int number = tape.number(MOST_DIGITS);
            if (number == NONE) {
                return false;
            }
            draft.add(number);
            return true;
        }

        private static boolean isRelation(int sign) {
            return sign == '=' || sign == '<' || sign == '>';
        }
    }

    /** All that acts change, in one row, so that keeping it and bringing it back is one copy. */
    private static final class State {
        private static final int DOOR = 0;
        private static final int STEPS = 1;
        private static final int HARM = 2;
        private static final int COINS = 3;
        private static final int BY_REST = 4;
        private static final int BY_HIM = 5;
        private static final int YEAR = 6;
        private static final int AWAY = 7;
        /** How many rows were ever logged: the ring of the latest goes on from there. */
        private static final int LOGGED = 8;
        private static final int MET = 9;
        private static final int FEIGNED = MET + MOST_PERSONS;
        private static final int CHAIN = FEIGNED + 2 * MOST_PERSONS;
        private static final int ASKS = CHAIN + MOST_PERSONS;
        private static final int LOG = ASKS + MOST_TROUBLES;
        private static final int SIZE = LOG + MOST_LOGGED;

        private final int[] cells = new int[SIZE];

        void begin(Town town) {
            Arrays.fill(cells, 0);
            cells[COINS] = town.coins();
            for (int i = 0; i < town.troubles; i++) {
                cells[ASKS + i] = town.asksAtFirst(i);
            }
        }

        void copyFrom(State other) {
            System.arraycopy(other.cells, 0, cells, 0, SIZE);
        }

        boolean isAway(int person) {
            return (cells[AWAY] >> person & 1) == 1;
        }

        void move(int person) {
            cells[AWAY] ^= 1 << person;
        }

        int meetings(int person) {
            return cells[MET + person];
        }

        void setMeetings(int person, int times) {
            cells[MET + person] = times;
        }

        void meet(int person) {
            if (cells[MET + person] < MOST_MET) {
                cells[MET + person]++;
            }
        }

        int metBits() {
            int bits = 0;
            for (int i = 0; i < MOST_PERSONS; i++) {
                if (cells[MET + i] > 0) {
                    bits |= 1 << i;
                }
            }
            return bits;
        }

        int feigned(int person, int trait) {
            return cells[FEIGNED + trait * MOST_PERSONS + person];
        }

        void setFeigned(int person, int trait, int times) {
            cells[FEIGNED + trait * MOST_PERSONS + person] = times;
        }

        boolean canFeign(int person, int trait) {
            return !isAway(person) && feigned(person, trait) < MOST_FEIGNED;
        }

        int chains(int person) {
            return cells[CHAIN + person];
        }

        int asks(int trouble) {
            return cells[ASKS + trouble];
        }

        void setAsks(int trouble, int much) {
            cells[ASKS + trouble] = much;
        }

        void crown(int person, boolean byRest) {
            if (cells[CHAIN + person] < MOST_CHAIN) {
                cells[CHAIN + person]++;
            }
            cells[byRest ? BY_REST : BY_HIM]++;
        }

        void harm(int much) {
            cells[HARM] = within(cells[HARM] + much, MOST_HARM);
        }

        void startYear() {
            cells[COINS] = within(cells[COINS] + MARTINMAS_GIVES, MOST_COINS);
            cells[YEAR]++;
            cells[DOOR] = 0;
            cells[STEPS] = 0;
            Arrays.fill(cells, MET, CHAIN, 0);
        }

        void record(int mayor, boolean byRest, int troubles) {
            int row = mayor + 1 + (byRest ? 8 : 0) + 16 * troubles;
            cells[LOG + cells[LOGGED] % MOST_LOGGED] = row;
            cells[LOGGED]++;
        }

        int logLength() {
            return cells[LOGGED] < MOST_LOGGED ? cells[LOGGED] : MOST_LOGGED;
        }

        int loggedMayor(int back) {
            return (logged(back) & 7) - 1;
        }

        int loggedRest(int back) {
            return logged(back) >> 3 & 1;
        }

        int loggedTroubles(int back) {
            return logged(back) >> 4;
        }

        private int logged(int back) {
            return cells[LOG + Math.floorMod(cells[LOGGED] - 1 - back, MOST_LOGGED)];
        }
    }

    /** The states ahead of the latest acts, in a ring. */
    private static final class Acts {
        private final int[][] rows = new int[MOST_ACTS][State.SIZE];
        private int held = 0;
        private int next = 0;

        void keep(State state) {
            System.arraycopy(state.cells, 0, rows[next], 0, State.SIZE);
            next = (next + 1) % MOST_ACTS;
            if (held < MOST_ACTS) {
                held++;
            }
        }

        void takeBack(State state) {
            if (held > 0) {
                next = (next + MOST_ACTS - 1) % MOST_ACTS;
                held--;
                System.arraycopy(rows[next], 0, state.cells, 0, State.SIZE);
            }
        }

        void forget() {
            held = 0;
        }
    }

    /** The hangman: how people seem to him, how he takes to them, whom he picks. */
    private static final class Judge {
        private final Town town;
        private final int[] letters = new int[Law.LETTERS.length()];
        private final int[] appeals = new int[MOST_PERSONS];
        /** The law that holds; null: none, his likings tell. */
        private Law ruling = null;

        Judge(Town town) {
            this.town = town;
        }

        int seeming(State state, int person, int trait) {
            int told = town.trait(person, trait);
            if (trait == VANITY) {
                return told;
            }
            return within(told + 2 * state.feigned(person, trait), MOST_TRAIT);
        }

        int appealOf(State state, int person) {
            int courage = seeming(state, person, COURAGE);
            int kindness = seeming(state, person, KINDNESS);
            int vanity = seeming(state, person, VANITY);
            if (ruling == null) {
                int liked = town.liking(COURAGE) * courage + town.liking(KINDNESS) * kindness;
                return within(liked - town.liking(VANITY) * vanity, MOST_APPEAL);
            }
            letters[0] = courage;
            letters[1] = kindness;
            letters[2] = vanity;
            letters[3] = state.meetings(person);
            letters[4] = state.chains(person);
            letters[5] = state.cells[State.YEAR] % 100;
            return within(ruling.worth(letters), MOST_APPEAL);
        }

        int inTown(State state) {
            return town.allPersons() & ~state.cells[State.AWAY];
        }

        int candidates(State state) {
            return inTown(state) & state.metBits();
        }

        int picked(State state) {
            int candidates = candidates(state);
            weigh(state, candidates);
            return choice(candidates, inTown(state));
        }

        void weigh(State state, int persons) {
            for (int i = 0; i < town.persons; i++) {
                if ((persons >> i & 1) == 1) {
                    appeals[i] = appealOf(state, i);
                }
            }
        }

        /** Who is picked of these candidates (bits, weighed already); without any the rest choose of those in town. */
        int choice(int candidates, int inTown) {
            int best = mostAppealing(candidates);
            return best == NONE ? town.mostOfThese(VANITY, inTown) : best;
        }

        int mostAppealing(int persons) {
            return highest(appeals, persons);
        }
    }

    /** What happens in a year: walks, Martinmas, and whole years by draws. */
    private static final class Almanac {
        private static final long TIMES = 6364136223846793005L;
        private static final long MORE = 1442695040888963407L;
        private static final int WALKS_A_YEAR = 3;

        private final Town town;
        private final Judge judge;
        private long drawn = 0;

        Almanac(Town town, Judge judge) {
            this.town = town;
            this.judge = judge;
        }

        boolean canReach(State state, int door) {
            int far = Math.abs(door - state.cells[State.DOOR]);
            return far > 0 && state.cells[State.STEPS] + far <= MOST_STEPS;
        }

        /** How many he met. */
        int walkTo(State state, int door) {
            int from = state.cells[State.DOOR];
            int low = Math.min(from, door);
            int high = Math.max(from, door);
            int met = 0;
            for (int i = 0; i < town.persons; i++) {
                if (!state.isAway(i) && town.door(i) >= low && town.door(i) <= high) {
                    state.meet(i);
                    met++;
                }
            }
            state.cells[State.STEPS] += high - low;
            state.cells[State.DOOR] = door;
            return met;
        }

        void endYear(State state) {
            int mayor = judge.picked(state);
            boolean byRest = mayor != NONE && judge.candidates(state) == 0;
            if (mayor != NONE) {
                state.crown(mayor, byRest);
            }
            int met = metBy(state, mayor);
            for (int i = 0; i < town.troubles; i++) {
                if ((met >> i & 1) == 1) {
                    state.setAsks(i, Math.min(state.asks(i) + 1, MOST_TRAIT));
                } else {
                    state.harm(town.gravity(i));
                    state.setAsks(i, Math.max(state.asks(i) - 1, 0));
                }
            }
            state.record(mayor, byRest, met);
            state.startYear();
        }

        /** The troubles (bits) that somebody as mayor would meet; nobody meets none. */
        int metBy(State state, int mayor) {
            int bits = 0;
            for (int i = 0; mayor != NONE && i < town.troubles; i++) {
                if (town.trait(mayor, town.asksFor(i)) >= state.asks(i)) {
                    bits |= 1 << i;
                }
            }
            return bits;
        }

        void liveYear(State state, int fortune) {
            for (int i = 0; i < WALKS_A_YEAR; i++) {
                int door = draw(LAST_DOOR + 1);
                if (canReach(state, door)) {
                    walkTo(state, door);
                }
            }
            int feigner = draw(town.persons);
            int trait = draw(2);
            if (state.canFeign(feigner, trait)) {
                state.setFeigned(feigner, trait, state.feigned(feigner, trait) + 1);
            }
            if (draw(10) < fortune) {
                state.move(draw(town.persons));
            }
            endYear(state);
        }

        private int draw(int of) {
            drawn = drawn * TIMES + MORE;
            return of > 0 ? (int) ((drawn >>> 33) % of) : 0;
        }
    }

    /** What is asked apart: it leaves the state as it is and tries things out in one of its own. */
    private static final class Questions {
        private static final int WINNING = 6;
        private static final int CHOICES = MOST_FEIGNED + 1;
        private static final int NOBODY = 9;
        private static final long ALL_PARTS = 1000000000L;

        private final Town town;
        private final Judge judge;
        private final State tried = new State();
        private final int[] winners = new int[CHOICES * CHOICES];
        private int bestRow = NONE;
        private int bestGravity = 0;

        Questions(Town town, Judge judge) {
            this.town = town;
            this.judge = judge;
        }

        int leadOf(State state, int person) {
            int others = judge.candidates(state) & ~(1 << person);
            judge.weigh(state, others);
            int rival = judge.mostAppealing(others);
            return rival == NONE ? MOST_APPEAL : judge.appealOf(state, person) - judge.appeals[rival];
        }

        int leastFeigning(State state, int person) {
            tried.copyFrom(state);
            tried.meet(person);
            int candidates = judge.candidates(tried);
            int inTown = judge.inTown(tried);
            judge.weigh(tried, candidates);
            int mostCourage = MOST_FEIGNED - state.feigned(person, COURAGE);
            int mostKindness = MOST_FEIGNED - state.feigned(person, KINDNESS);
            for (int together = 0; together <= mostCourage + mostKindness; together++) {
                for (int a = 0; a <= mostCourage; a++) {
                    int b = together - a;
                    if (b >= 0 && b <= mostKindness) {
                        tried.setFeigned(person, COURAGE, state.feigned(person, COURAGE) + a);
                        tried.setFeigned(person, KINDNESS, state.feigned(person, KINDNESS) + b);
                        judge.weigh(tried, 1 << person);
                        if (judge.choice(candidates, inTown) == person) {
                            return 10 * a + b;
                        }
                    }
                }
            }
            return NONE;
        }

        /** If some live to either side, the nearer end comes first, as its way is gone twice. */
        int tourSteps(State state, int persons) {
            int from = state.cells[State.DOOR];
            int left = from - lowestDoor(from, persons);
            int right = highestDoor(from, persons) - from;
            return left + right == 0 ? 1 : left + right + Math.min(left, right);
        }

        int tourEnd(State state, int persons) {
            int from = state.cells[State.DOOR];
            int low = lowestDoor(from, persons);
            int high = highestDoor(from, persons);
            if (low == high) {
                return from > 0 ? from - 1 : from + 1;
            }
            return high - from <= from - low ? low : high;
        }

        private int lowestDoor(int from, int persons) {
            int low = from;
            for (int i = 0; i < town.persons; i++) {
                if ((persons >> i & 1) == 1) {
                    low = Math.min(low, town.door(i));
                }
            }
            return low;
        }

        private int highestDoor(int from, int persons) {
            int high = from;
            for (int i = 0; i < town.persons; i++) {
                if ((persons >> i & 1) == 1) {
                    high = Math.max(high, town.door(i));
                }
            }
            return high;
        }

        void shareOut(State state) {
            int left = 0;
            for (int i = 0; i < town.troubles; i++) {
                left += town.gravity(i);
            }
            bestRow = NONE;
            bestGravity = NONE;
            assign(state, 0, judge.inTown(state), 0, 0, left);
        }

        /** Rows come rising, so the first of the best is the least; what cannot become better is left out. */
        private void assign(State state, int trouble, int free, int row, int gravity, int left) {
            if (gravity + left <= bestGravity) {
                return;
            }
            if (!town.hasTrouble(trouble)) {
                bestRow = row;
                bestGravity = gravity;
                return;
            }
            int grave = town.gravity(trouble);
            for (int i = 0; i < town.persons; i++) {
                boolean able = town.trait(i, town.asksFor(trouble)) >= state.asks(trouble);
                if (able && (free >> i & 1) == 1) {
                    assign(state, trouble + 1, free & ~(1 << i), 10 * row + i, gravity + grave, left - grave);
                }
            }
            assign(state, trouble + 1, free, 10 * row + NOBODY, gravity, left - grave);
        }

        /** Who would be picked for each x and y of the game. */
        void play(State state, int one, int other) {
            tried.copyFrom(state);
            tried.meet(one);
            tried.meet(other);
            int candidates = judge.candidates(tried);
            int inTown = judge.inTown(tried);
            judge.weigh(tried, candidates);
            for (int x = 0; x < CHOICES; x++) {
                tried.setFeigned(one, COURAGE, x);
                judge.weigh(tried, 1 << one);
                for (int y = 0; y < CHOICES; y++) {
                    tried.setFeigned(other, COURAGE, y);
                    judge.weigh(tried, 1 << other);
                    winners[CHOICES * x + y] = judge.choice(candidates, inTown);
                }
            }
        }

        /** What a player has who feigned so often, in the game that was played last. */
        int gain(int player, int feigned, int x, int y) {
            return (winners[CHOICES * x + y] == player ? WINNING : 0) - feigned;
        }

        boolean isRest(int one, int other, int x, int y) {
            int mine = gain(one, x, x, y);
            int yours = gain(other, y, x, y);
            for (int i = 0; i < CHOICES; i++) {
                if (gain(one, i, i, y) > mine || gain(other, i, x, i) > yours) {
                    return false;
                }
            }
            return true;
        }

        int oddsOf(State state, int person, int chance) {
            tried.copyFrom(state);
            for (int i = 0; i < town.persons; i++) {
                tried.setMeetings(i, 1);
            }
            judge.weigh(tried, judge.inTown(tried));
            return (int) partsFor(person, chance, 0, 0, ALL_PARTS);
        }

        private long partsFor(int person, int chance, int next, int met, long parts) {
            if (next >= town.persons) {
                return judge.choice(met, judge.inTown(tried)) == person ? parts : 0;
            }
            if (tried.isAway(next)) {
                return partsFor(person, chance, next + 1, met, parts);
            }
            long hit = parts * chance / 100;
            return partsFor(person, chance, next + 1, met | 1 << next, hit)
                    + partsFor(person, chance, next + 1, met, parts - hit);
        }

        /** From the next year on nobody is met, so that the rest choose the same one every year. */
        int firstOf(State state, int person) {
            if (state.chains(person) >= MOST_CHAIN) {
                return NONE;
            }
            if (judge.picked(state) == person) {
                return 1;
            }
            return town.mostOfThese(VANITY, judge.inTown(state)) == person ? 2 : NONE;
        }

        int favourite(State state) {
            judge.weigh(state, town.allPersons());
            return judge.mostAppealing(town.allPersons());
        }

        int chained(State state) {
            int best = 0;
            for (int i = 1; i < town.persons; i++) {
                if (state.chains(i) > state.chains(best)) {
                    best = i;
                }
            }
            return best;
        }
    }

    /** What is given of his picks, kept as the likings that still fit all of it, rising. */
    private static final class Guesses {
        private static final int ALL = 1000;

        private final Town town;
        private final int[] fits = new int[ALL];
        private final int[] appeals = new int[MOST_PERSONS];
        private final int[] balance = new int[MOST_PERSONS * MOST_PERSONS];
        private int fitting = 0;
        private int told = 0;

        Guesses(Town town) {
            this.town = town;
        }

        void forget() {
            for (int i = 0; i < ALL; i++) {
                fits[i] = i;
            }
            fitting = ALL;
            told = 0;
        }

        void add(int persons, int one, boolean is) {
            int left = 0;
            for (int i = 0; i < fitting; i++) {
                weigh(fits[i]);
                if ((highest(appeals, persons) == one) == is) {
                    fits[left] = fits[i];
                    left++;
                }
            }
            fitting = left;
            told++;
        }

        private void weigh(int digits) {
            int courage = digits / 100;
            int kindness = digits / 10 % 10;
            int vanity = digits % 10;
            for (int i = 0; i < town.persons; i++) {
                int liked = courage * town.trait(i, COURAGE) + kindness * town.trait(i, KINDNESS);
                appeals[i] = within(liked - vanity * town.trait(i, VANITY), MOST_APPEAL);
            }
        }

        int bestPair() {
            weighPairs();
            int best = NONE;
            int least = 0;
            for (int low = 0; low < town.persons; low++) {
                for (int high = low + 1; high < town.persons; high++) {
                    int apart = Math.abs(balance[low * MOST_PERSONS + high]);
                    if (best == NONE || apart < least) {
                        best = 10 * low + high;
                        least = apart;
                    }
                }
            }
            return best;
        }

        /** For each pair: by how many more of the likings the lower one is picked than not. */
        private void weighPairs() {
            Arrays.fill(balance, 0);
            for (int i = 0; i < fitting; i++) {
                weigh(fits[i]);
                for (int low = 0; low < town.persons; low++) {
                    for (int high = low + 1; high < town.persons; high++) {
                        balance[low * MOST_PERSONS + high] += appeals[low] >= appeals[high] ? 1 : -1;
                    }
                }
            }
        }
    }
}
