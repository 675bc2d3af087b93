import java.math.BigInteger;
import java.util.List;

/** The boundary cases of promises 15 to 19, sentence by sentence: fate, years by draws, status, undo, log. */
public final class Promise15To19Test {
    private static final int NONE = HangmanMayor.NONE;
    private static final int HIDDEN = HangmanMayor.HIDDEN;
    private static final BigInteger ROUND = BigInteger.ONE.shiftLeft(64);

    public static void main(String[] args) {
        Promises.run(Promise15To19Test.class);
    }

    /** The draws of a seed, by numbers without bounds, so that going round is done here by hand. */
    private static final class Draws {
        private BigInteger x;

        Draws(long seed) {
            x = BigInteger.valueOf(seed).mod(ROUND);
        }

        int draw(int of) {
            x = x.multiply(new BigInteger("6364136223846793005")).add(new BigInteger("1442695040888963407")).mod(ROUND);
            return x.shiftRight(33).mod(BigInteger.valueOf(of)).intValue();
        }
    }

    /** A year by the acts by hand; what they cost is given back. */
    private static void yearByHand(HangmanMayor t, Draws draws, int fate) {
        for (int i = 0; i < 3; i++) {
            t.walks(draws.draw(21));
        }
        int who = draws.draw(t.count(0));
        if (t.feigns(who, draws.draw(2)) != NONE) {
            t.give(1);
        }
        if (draws.draw(10) < fate && t.leaves(draws.draw(t.count(0))) != NONE) {
            t.give(2);
        }
        t.martinmas(1);
    }

    /** All that is seen but for how many acts there are. */
    private static List<Integer> seen(HangmanMayor t) {
        List<Integer> all = View.of(t);
        all.remove(12);
        return all;
    }

    // ---- 15: fate

    private static void promise15_from0To9() {
        HangmanMayor t = new HangmanMayor();
        for (int v : new int[] {-1, 10, Integer.MIN_VALUE, Integer.MAX_VALUE}) {
            Check.due("fate " + v, t.fate(v), false);
            Check.due("as it was", t.count(9), 1);
        }
        Check.due("0", t.fate(0), true);
        Check.due("0", t.count(9), 0);
        Check.due("9", t.fate(9), true);
        Check.due("9", t.count(9), 9);
    }

    private static void promise15_itIsSo() {
        HangmanMayor t = new HangmanMayor();
        Check.due("1 at first", t.fate(1), false);
        t.fate(4);
        Check.due("4 again", t.fate(4), false);
        Check.due("1 is another one now", t.fate(1), true);
    }

    private static void promise15_itIsNoActAndHasNoStatus() {
        HangmanMayor t = Check.town("p;p");
        t.fate(7);
        t.fate(70);
        Check.due("no act", t.count(12), 0);
        Check.due("no status", t.status(1), 0);
        t.give(1);
        t.fate(2);
        t.undo();
        Check.due("not undone", t.count(9), 2);
    }

    // ---- 16: years

    private static void promise16_from1To60() {
        HangmanMayor t = Check.town("p;p");
        for (int n : new int[] {0, -1, 61, Integer.MIN_VALUE, Integer.MAX_VALUE}) {
            Check.due("n " + n, t.years(n, 3), NONE);
        }
        Check.due("1", t.years(1, 3), 1);
        Check.due("60", t.years(60, 3), 61);
    }

    private static void promise16_year999IsTheLast() {
        HangmanMayor t = Check.town("p;p");
        Check.times(16, () -> t.years(60, 8));
        Check.due("1000", t.years(40, 8), NONE);
        Check.due("960 still", t.count(5), 960);
        Check.due("999", t.years(39, 8), 999);
        Check.due("none ends", t.years(1, 8), NONE);
        t.undo();
        Check.due("999 again", t.years(1, 9), 999);
    }

    private static void promise16_noStatus() {
        HangmanMayor none = new HangmanMayor();
        none.years(1, 1);
        HangmanMayor t = Check.town("sm0;ps20;p");
        t.years(0, 1);
        t.years(61, 1);
        Check.times(17, () -> t.years(60, 5));
        for (int i = 0; i < 5; i++) {
            Check.due("without a town", none.status(i), 0);
            Check.due("whatever is left out", t.status(i), 0);
        }
    }

    private static void promise16_eachYearIsOneAct() {
        HangmanMayor t = Check.town("p;ps9;ps20;t");
        List<Integer> first = View.of(t);
        t.years(1, 77);
        Check.due("one act", t.count(12), 1);
        Check.due("undone", t.undo(), 0);
        Check.due("all of it", View.of(t).equals(first), true);
        t.years(60, 77);
        Check.due("forty", t.count(12), 40);
    }

    private static void promise16_seedsGoRoundAt64Bits() {
        long[] seeds = {0, 1, -1, Long.MAX_VALUE, Long.MIN_VALUE, 1L << 32, -(1L << 33), 0x123456789abcdefL};
        String text = "sc1k9v3m50;pc3v5s2;pc4k7s7;pc9k5s13;ps20;pv7s0;tg2n4;tw1g5n9";
        for (long seed : seeds) {
            HangmanMayor drawn = Check.town(text);
            HangmanMayor byHand = Check.town(text);
            drawn.fate(5);
            byHand.fate(5);
            drawn.years(20, seed);
            Draws draws = new Draws(seed);
            for (int i = 0; i < 20; i++) {
                yearByHand(byHand, draws, 5);
            }
            Check.due("seed " + seed, seen(drawn).equals(seen(byHand)), true);
        }
    }

    private static void promise16_theSameSeedTheSameYears() {
        HangmanMayor one = Check.town("ps1;ps9v5;ps20;t");
        HangmanMayor other = Check.town("ps1;ps9v5;ps20;t");
        one.years(9, -7);
        other.years(3, 12345);
        Check.times(3, other::undo);
        other.years(9, -7);
        Check.due("alike", View.of(one).equals(View.of(other)), true);
    }

    private static void promise16_nobodyGoesByFate0() {
        HangmanMayor t = Check.town("p;p;p");
        t.fate(0);
        t.years(60, 11);
        t.years(60, 12);
        Check.due("nobody went", t.most(8), 0);
        for (int i = 0; i < 60; i++) {
            Check.due("somebody is picked", t.log(i, 0) != NONE, true);
        }
    }

    /** A draw of 10 is below FATE or not: the first seed for each draw, and FATE at it and one more. */
    private static void promise16_belowFateSomebodyGoes() {
        for (int drawn = 0; drawn < 10; drawn++) {
            long seed = 0;
            while (fateOf(seed) != drawn) {
                seed++;
            }
            for (int fate = 0; fate < 10; fate++) {
                HangmanMayor t = Check.town("p;p;p");
                t.fate(fate);
                t.years(1, seed);
                Check.due("draw " + drawn + ", fate " + fate, t.most(8) != 0, drawn < fate);
            }
        }
    }

    private static int fateOf(long seed) {
        Draws draws = new Draws(seed);
        for (int i = 0; i < 3; i++) {
            draws.draw(21);
        }
        draws.draw(3);
        draws.draw(2);
        return draws.draw(10);
    }

    private static void promise16_forNothing() {
        HangmanMayor t = Check.town("sm0;p;p");
        t.fate(9);
        t.years(10, 4);
        Check.due("3 a year", t.rule(3), 30);
    }

    /** With no coin somebody feigns and goes away all the same: with coins nothing is otherwise. */
    private static void promise16_coinsAreNotAsked() {
        HangmanMayor poor = Check.town("sm0;pc1s1;pk2s5;pv9s9");
        HangmanMayor rich = Check.town("sm99;pc1s1;pk2s5;pv9s9");
        poor.fate(9);
        rich.fate(9);
        for (int i = 0; i < 20; i++) {
            poor.years(1, i);
            rich.years(1, i);
            Check.due("picked", poor.log(0, 0), rich.log(0, 0));
            Check.due("away", poor.most(8), rich.most(8));
            poor.undo();
            rich.undo();
            Check.due("coins", poor.rule(3), 0);
        }
    }

    /** At door 1 with 39 steps gone, nobody met: what would be more than 40 is left out, the step to 0 behind it is not. */
    private static void promise16_walksThatAreTooFarAreLeftOut() {
        long seed = 0;
        while (!drawsTwoTooFarThenDoor0(seed)) {
            seed++;
        }
        HangmanMayor t = Check.town("sc1k0v0;pc1s0v0;pc9s3v0;pc2s20v0");
        t.fate(0);
        for (int p = 0; p < 3; p++) {
            t.leaves(p);
        }
        t.walks(20);
        t.walks(1);
        for (int p = 0; p < 3; p++) {
            t.leaves(p);
        }
        Check.due("39 steps", t.count(7), 39);
        Check.due("nobody met", t.most(7), 0);
        t.years(1, seed);
        Check.due("by him", t.log(0, 1), 0);
        Check.due("the one at door 0 alone was met", t.log(0, 0), 0);
    }

    private static boolean drawsTwoTooFarThenDoor0(long seed) {
        Draws draws = new Draws(seed);
        return draws.draw(21) > 2 && draws.draw(21) > 2 && draws.draw(21) == 0;
    }

    /** Three draws of the door where he is: he goes nowhere, and whoever lives there is not met. */
    private static void promise16_heDoesNotWalkToWhereHeIs() {
        long seed = 0;
        while (!drawsDoor0ThreeTimes(seed)) {
            seed++;
        }
        HangmanMayor t = Check.town("pc9s0v0;pv9s1");
        t.fate(0);
        t.years(1, seed);
        Check.due("nobody was met: by the rest", t.log(0, 1), 1);
        Check.due("the vainest", t.log(0, 0), 1);
    }

    private static boolean drawsDoor0ThreeTimes(long seed) {
        Draws draws = new Draws(seed);
        return draws.draw(21) == 0 && draws.draw(21) == 0 && draws.draw(21) == 0;
    }

    private static void promise16_notAFourthTimeAndNotWhoIsAway() {
        long seed = 0;
        while (!drawsTheFirstOneFeigningCourage(seed)) {
            seed++;
        }
        HangmanMayor t = Check.town("sc1k0v0m50;pc1s0v0;pc8s0v0");
        t.fate(0);
        t.feigns(0, 0);
        t.feigns(0, 0);
        t.feigns(0, 0);
        t.years(1, seed);
        Check.due("7 against 8, 9 by a fourth time", t.log(0, 0), 1);
        HangmanMayor third = Check.town("sc1k0v0m50;pc2s0v0;pc8s0v0");
        third.fate(0);
        third.feigns(0, 0);
        third.feigns(0, 0);
        third.years(1, seed);
        Check.due("8 against 8 by a third time", third.log(0, 0), 0);
        HangmanMayor away = Check.town("sc1k0v0m50;pc9s0v9;pc8s0v0");
        away.fate(0);
        away.leaves(0);
        away.years(1, seed);
        Check.due("who is away is nothing", away.log(0, 0), 1);
        Check.due("and stays away", away.most(8), 1);
    }

    /** Both persons live at door 0, where the first walk begins. */
    private static boolean drawsTheFirstOneFeigningCourage(long seed) {
        Draws draws = new Draws(seed);
        boolean walks = draws.draw(21) > 0;
        draws.draw(21);
        draws.draw(21);
        return walks && draws.draw(2) == 0 && draws.draw(2) == 0;
    }

    private static void promise16_theFirstYearGoesOnFromWhereHeIs() {
        String text = "ps2;ps17;pv9s9;t";
        for (long seed = 0; seed < 20; seed++) {
            HangmanMayor drawn = Check.town(text);
            HangmanMayor byHand = Check.town(text);
            for (HangmanMayor t : List.of(drawn, byHand)) {
                t.walks(20);
                t.walks(12);
                t.feigns(1, 0);
                t.feigns(1, 0);
                t.feigns(2, 1);
            }
            drawn.years(3, seed);
            Draws draws = new Draws(seed);
            for (int i = 0; i < 3; i++) {
                yearByHand(byHand, draws, 1);
            }
            Check.due("seed " + seed, seen(drawn).equals(seen(byHand)), true);
        }
    }

    // ---- 17: status

    private static void promise17_noSuchWhat() {
        HangmanMayor t = new HangmanMayor();
        for (int what : new int[] {-1, 5, Integer.MIN_VALUE, Integer.MAX_VALUE}) {
            Check.due("status " + what, t.status(what), NONE);
        }
        Check.due("the last one", t.status(4), 0);
    }

    private static void promise17_eachReasonIsCountedApart() {
        HangmanMayor t = Scenes.late();
        t.leaves(2);
        Check.times(2, () -> t.give(0));
        Check.times(3, () -> t.walks(0));
        t.walks(20);
        t.walks(0);
        Check.times(4, () -> t.walks(9));
        Check.times(5, () -> t.martinmas(2));
        for (int i = 0; i < 5; i++) {
            Check.due("status " + i, t.status(i), i + 1);
        }
    }

    private static void promise17_itIsNeitherUndoneNorBroughtBackNorGone() {
        HangmanMayor t = Check.town("p;p");
        t.image();
        t.give(1);
        t.walks(21);
        Check.due("an act", t.undo(), 0);
        Check.due("not undone", t.status(1), 1);
        t.walks(21);
        t.back();
        Check.due("not brought back", t.status(1), 2);
        t.walks(21);
        Check.tell(t, "p;p");
        Check.due("not gone", t.status(1), 3);
    }

    private static void promise17_justActsAreCounted() {
        HangmanMayor t = Check.town("p;p");
        t.feed(-1, -1, -1, -1, -1);
        t.text(0);
        t.text(9);
        t.end(99);
        t.law(3);
        t.fate(99);
        t.years(99, 1);
        t.undo();
        t.back();
        t.given(1, 1, true);
        t.tour(0, 0);
        t.odds(9, 9);
        Check.person(t, 9, 9);
        for (int i = 0; i < 5; i++) {
            Check.due("status " + i, t.status(i), 0);
        }
    }

    // ---- 18: undo

    private static void promise18_noneCanBeUndone() {
        Check.due("without a town", new HangmanMayor().undo(), NONE);
        HangmanMayor t = Check.town("p;p");
        Check.due("a new town", t.undo(), NONE);
        t.give(0);
        Check.due("a refused act is none", t.undo(), NONE);
        t.give(1);
        Check.due("the first one", t.undo(), 0);
        Check.due("no more", t.undo(), NONE);
    }

    private static void promise18_eachActIsUndone() {
        HangmanMayor t = Check.town("ps1;ps2v9;t;tw2n9");
        Runnable[] acts = {() -> t.walks(2), () -> t.feigns(0, 0), () -> t.feigns(1, 1), () -> t.leaves(0), () -> t.leaves(0),
            () -> t.give(50), () -> t.martinmas(1), () -> t.years(1, 6), () -> t.walks(20)};
        for (Runnable act : acts) {
            List<Integer> before = View.of(t);
            act.run();
            Check.due("something is otherwise", View.of(t).equals(before), false);
            t.undo();
            Check.due("undone", View.of(t).equals(before), true);
            act.run();
        }
        for (int i = acts.length - 1; i >= 0; i--) {
            Check.due("how many still", t.undo(), i);
        }
        Check.due("as at first", View.of(t).equals(View.of(Check.town("ps1;ps2v9;t;tw2n9"))), true);
    }

    private static void promise18_theLatestFortyAlone() {
        for (int acts = 39; acts <= 42; acts++) {
            HangmanMayor t = Check.town("sm0;p;p");
            Check.times(acts, () -> t.give(1));
            int held = Math.min(acts, 40);
            Check.due("held", t.count(12), held);
            for (int i = held - 1; i >= 0; i--) {
                Check.due("undone", t.undo(), i);
            }
            Check.due("no more", t.undo(), NONE);
            Check.due("coins", t.rule(3), acts - held);
        }
    }

    private static void promise18_goingRoundMoreThanOnce() {
        HangmanMayor t = Check.town("sm0;p;p");
        Check.times(100, () -> t.give(1));
        Check.times(30, t::undo);
        Check.due("70", t.rule(3), 70);
        Check.due("ten are left", t.count(12), 10);
        Check.times(35, () -> t.give(2));
        Check.due("140", t.rule(3), 140);
        Check.due("forty", t.count(12), 40);
        Check.times(35, t::undo);
        Check.due("70 again", t.rule(3), 70);
        Check.times(5, t::undo);
        Check.due("the five ahead of them", t.rule(3), 65);
        Check.due("no more", t.undo(), NONE);
    }

    private static void promise18_theLogIsUndoneToo() {
        HangmanMayor t = Check.town("ps1v0;ps9v1");
        t.walks(1);
        t.martinmas(1);
        t.martinmas(59);
        Check.due("the first of 60", t.log(59, 0), 0);
        t.martinmas(1);
        Check.due("fell out", t.log(59, 0), 1);
        t.undo();
        Check.due("is back", t.log(59, 0), 0);
        Check.due("60", t.count(11), 60);
        t.undo();
        Check.due("59", t.count(11), 59);
        Check.due("the first", t.log(58, 0), 0);
        Check.due("none ahead", t.log(59, 0), HIDDEN);
    }

    private static void promise18_actsBehindAnUndoTakeItsPlace() {
        HangmanMayor t = Check.town("sm0;p;p");
        t.give(1);
        t.give(2);
        t.undo();
        t.give(7);
        Check.due("8", t.rule(3), 8);
        Check.due("one still", t.undo(), 1);
        Check.due("1", t.rule(3), 1);
    }

    // ---- 19: log

    private static void promise19_noSuchOnes() {
        HangmanMayor t = Check.town("p;p;t");
        Check.due("none yet", t.log(0, 0), HIDDEN);
        t.martinmas(2);
        for (int i : new int[] {-1, 2, 60, Integer.MIN_VALUE, Integer.MAX_VALUE}) {
            Check.due("log " + i, t.log(i, 0), HIDDEN);
        }
        for (int what : new int[] {-1, 3, Integer.MIN_VALUE, Integer.MAX_VALUE}) {
            Check.due("what " + what, t.log(0, what), HIDDEN);
        }
        Check.due("the last what", t.log(1, 2), 0);
    }

    private static void promise19_theLatest60() {
        HangmanMayor t = Check.town("ps1v0;ps9v1");
        t.walks(1);
        for (int years = 1; years <= 62; years++) {
            t.martinmas(1);
            Check.due("how long", t.count(11), Math.min(years, 60));
            Check.due("the oldest", t.log(Math.min(years, 60) - 1, 0), years <= 60 ? 0 : 1);
            Check.due("none ahead", t.log(Math.min(years, 60), 0), HIDDEN);
        }
    }

    private static void promise19_theLatestIsI0() {
        HangmanMayor t = Check.town("ps1c5v0;ps9v9;tw0n5;tw2n9");
        t.walks(1);
        t.martinmas(1);
        t.martinmas(1);
        t.leaves(0);
        t.leaves(1);
        t.martinmas(1);
        int[][] due = {{NONE, 0, 0}, {1, 1, 2}, {0, 0, 1}};
        for (int i = 0; i < 3; i++) {
            for (int what = 0; what < 3; what++) {
                Check.due("log " + i + ", " + what, t.log(i, what), due[i][what]);
            }
        }
    }

    private static void promise19_sixPersonsFiveTroubles() {
        HangmanMayor t = Check.town("pv0;pv0;pv0;pv0;pv0;pc9k9v9;tn0;tw1n0;tw2n0;tn9;tw2n9");
        t.martinmas(1);
        Check.due("the sixth", t.log(0, 0), 5);
        Check.due("by the rest", t.log(0, 1), 1);
        Check.due("all five", t.log(0, 2), 31);
    }
}
