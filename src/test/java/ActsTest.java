import java.util.ArrayList;
import java.util.List;

/** Promises 10 to 19: walks, feigns, leaves, give, martinmas, fate, years, status, undo, log. */
public final class ActsTest {
    public static void main(String[] args) {
        withoutTown();
        walks();
        manySteps();
        feigns();
        leaves();
        give();
        martinmas();
        martinmasOfNobody();
        troublesAndHarm();
        lastYear();
        longLog();
        fate();
        years();
        yearsByHand();
        undo();
        undoForty();
        sixPersons();
        Check.finish();
    }

    private static void statuses(String what, HangmanMayor t, int... want) {
        for (int i = 0; i < 5; i++) {
            Check.due(what + ": status(" + i + ")", t.status(i), want[i]);
        }
        Check.due("status(5)", t.status(5), -1);
        Check.due("status(-1)", t.status(-1), -1);
    }

    private static void withoutTown() {
        HangmanMayor t = new HangmanMayor();
        Check.due("walks", t.walks(99), -1);
        Check.due("feigns", t.feigns(0, 9), -1);
        Check.due("leaves", t.leaves(0), -1);
        Check.due("give", t.give(99), -1);
        Check.due("martinmas", t.martinmas(99), -1);
        Check.due("years", t.years(99, 1), -1);
        Check.due("undo", t.undo(), -1);
        Check.due("fate", t.fate(2), true);
        Check.due("log", t.log(0, 0), HangmanMayor.HIDDEN);
        statuses("of several the first", t, 5, 0, 0, 0, 0);
    }

    private static void walks() {
        HangmanMayor t = Check.town("ps0;ps3;ps6;ps6;ps20");
        Check.due("to 3", t.walks(3), 2);
        Check.due("both ends", t.most(7), 3);
        Check.due("to 6", t.walks(6), 3);
        Check.due("to 5", t.walks(5), 2);
        Check.due("to 4", t.walks(4), 0);
        Check.due("steps", t.count(7), 8);
        Check.due("door", t.count(6), 4);
        Check.due("met twice", Check.person(t, 1, 4), 2);
        Check.due("acts", t.count(12), 4);
        Check.due("there", t.walks(4), -1);
        Check.due("no door 21", t.walks(21), -1);
        Check.due("no door -1", t.walks(-1), -1);
        statuses("walks", t, 0, 2, 1, 0, 0);
        Check.due("no act", t.count(12), 4);
        t.leaves(0);
        Check.due("not the one away", t.walks(0), 1);
        for (int i = 0; i < 12; i++) {
            t.walks(4);
            t.walks(3);
        }
        Check.due("nine at most", Check.person(t, 1, 4), 9);
        Check.due("still met", t.walks(4), 1);
    }

    private static void manySteps() {
        HangmanMayor t = Check.town("ps20;ps20");
        t.walks(20);
        Check.due("39 steps", t.walks(1), 2);
        Check.due("41", t.walks(3), -1);
        Check.due("too many", t.status(3), 1);
        Check.due("steps", t.count(7), 39);
        Check.due("40", t.walks(2), 0);
        Check.due("none more", t.walks(1), -1);
        Check.due("there comes first", t.walks(2), -1);
        Check.due("bounds come first", t.walks(50), -1);
        statuses("steps", t, 0, 1, 1, 2, 0);
        t.martinmas(1);
        Check.due("anew", t.count(7), 0);
        Check.due("at door 0", t.count(6), 0);
    }

    private static void feigns() {
        Check.due("the last coin", Check.town("sm1;p;p").feigns(0, 0), 6);
        Check.due("the last two", Check.town("sm2;p;p").leaves(0), 1);
        HangmanMayor t = Check.town("sm6;pc1k8;p");
        Check.due("once", t.feigns(0, 0), 3);
        Check.due("twice", t.feigns(0, 0), 5);
        Check.due("thrice", t.feigns(0, 0), 7);
        Check.due("a fourth time", t.feigns(0, 0), -1);
        Check.due("kindness apart", t.feigns(0, 1), 9);
        Check.due("no vanity", t.feigns(0, 2), -1);
        Check.due("no trait -1", t.feigns(0, -1), -1);
        Check.due("no person", t.feigns(2, 0), -1);
        Check.due("no person -1", t.feigns(-1, 9), -1);
        Check.due("coins", t.rule(3), 2);
        t.leaves(0);
        Check.due("away", t.feigns(0, 1), -1);
        statuses("feigns", t, 2, 2, 2, 0, 0);
        Check.due("no coin", t.feigns(1, 0), -1);
        Check.due("three times comes first", t.feigns(0, 0), -1);
        statuses("feigns", t, 2, 2, 3, 1, 0);
        t.martinmas(1);
        Check.due("a new year", t.feigns(1, 1), 6);
        Check.due("acts", t.count(12), 7);
    }

    private static void leaves() {
        HangmanMayor t = Check.town("sm5;ps1;ps1");
        t.walks(1);
        Check.due("goes", t.leaves(0), 1);
        Check.due("away", t.most(8), 1);
        Check.due("met all the same", t.most(7), 3);
        Check.due("comes back", t.leaves(0), 0);
        Check.due("coins", t.rule(3), 1);
        Check.due("met still", Check.person(t, 0, 4), 1);
        Check.due("too few", t.leaves(1), -1);
        Check.due("nobody", t.leaves(2), -1);
        Check.due("nobody", t.leaves(-1), -1);
        statuses("leaves", t, 2, 0, 0, 1, 0);
    }

    private static void give() {
        HangmanMayor t = Check.town("sm99;p;p");
        Check.due("0", t.give(0), -1);
        Check.due("51", t.give(51), -1);
        Check.due("many", t.give(Integer.MAX_VALUE), -1);
        Check.due("1", t.give(1), 100);
        for (int i = 0; i < 17; i++) {
            t.give(50);
        }
        Check.due("950", t.rule(3), 950);
        Check.due("1000", t.give(50), -1);
        Check.due("999", t.give(49), 999);
        Check.due("one more", t.give(1), -1);
        statuses("give", t, 0, 5, 0, 0, 0);
        t.martinmas(1);
        Check.due("999 at most", t.rule(3), 999);
        Check.due("undo counts", t.undo(), 19);
    }

    private static void martinmas() {
        HangmanMayor t = Check.town("sc1k1v1m10;pc9k9v0s5;pc1k1v5s1;pc9k9v0s9;pc0k0v5s20");
        t.walks(2);
        Check.due("the year", t.martinmas(1), 1);
        Check.due("only one was met", t.log(0, 0), 1);
        Check.due("by him", t.log(0, 1), 0);
        Check.due("nothing to meet", t.log(0, 2), 0);
        t.walks(9);
        Check.due("year 2", t.martinmas(1), 2);
        Check.due("of two alike the lowest", t.log(0, 0), 0);
        Check.due("year 3", t.martinmas(1), 3);
        Check.due("the vainest, lowest", t.log(0, 0), 1);
        Check.due("by the rest", t.log(0, 1), 1);
        Check.due("ahead", t.log(1, 0), 0);
        Check.due("further ahead", t.log(2, 0), 1);
        Check.due("no further", t.log(3, 0), HangmanMayor.HIDDEN);
        Check.due("no such what", t.log(0, 3), HangmanMayor.HIDDEN);
        Check.due("no such what", t.log(0, -1), HangmanMayor.HIDDEN);
        Check.due("no such row", t.log(-1, 0), HangmanMayor.HIDDEN);
        Check.due("coins", t.rule(3), 19);
        Check.due("chains", Check.person(t, 1, 6), 2);
        Check.due("by him", t.most(11), 2);
        Check.due("by the rest", t.most(10), 1);
        Check.due("n 0", t.martinmas(0), -1);
        Check.due("n 61", t.martinmas(61), -1);
        Check.due("n 60", t.martinmas(60), 63);
        Check.due("acts", t.count(12), 40);
        statuses("martinmas", t, 0, 2, 0, 0, 0);
        t.martinmas(60);
        Check.due("chain 99 at most", Check.person(t, 1, 6), 99);
        Check.due("the rest counts on", t.most(10), 121);
    }

    private static void martinmasOfNobody() {
        HangmanMayor t = Check.town("ps1;ps1v9;tn0g4;tw2n2g9");
        t.walks(3);
        t.leaves(0);
        t.leaves(1);
        Check.due("next", t.most(6), -1);
        Check.due("open", t.most(9), 3);
        t.martinmas(1);
        Check.due("nobody", t.log(0, 0), -1);
        Check.due("not by the rest", t.log(0, 1), 0);
        Check.due("none met", t.log(0, 2), 0);
        Check.due("neither", t.most(10) + t.most(11), 0);
        Check.due("harm", t.count(8), 13);
        Check.due("0 at least", t.trouble(0, 1), 0);
        Check.due("one less", t.trouble(1, 1), 1);
        t.leaves(0);
        t.walks(1);
        t.leaves(1);
        t.leaves(0);
        Check.due("met ones are away: the rest choose", t.most(6), 1);
        t.martinmas(1);
        Check.due("by the rest", t.log(0, 1), 1);
        Check.due("bits", t.log(0, 2), 3);
    }

    private static void troublesAndHarm() {
        HangmanMayor t = Check.town("sm9;pc5k3v9s1;pv0;tw0n5g1;tw1n4g2;tw2n9g9;tw2n8g3;tw0n9g7");
        t.feigns(0, 1);
        t.martinmas(1);
        Check.due("as told, not as it seems", t.log(0, 2), 1 + 4 + 8);
        int[] asks = {6, 3, 9, 9, 8};
        for (int i = 0; i < 5; i++) {
            Check.due("asks " + i, t.trouble(i, 1), asks[i]);
        }
        Check.due("harm", t.count(8), 9);
        t.martinmas(1);
        Check.due("harm adds up", t.count(8), 17);
        HangmanMayor bad = Check.town("pc0;pc0;tn9g9;tn9g9;tn9g9;tn9g9;tn9g9");
        bad.leaves(0);
        bad.leaves(1);
        for (int i = 0; i < 3; i++) {
            bad.martinmas(60);
        }
        Check.due("180 years", bad.count(8), 8100);
        bad.martinmas(42);
        Check.due("almost", bad.count(8), 9990);
        bad.martinmas(1);
        Check.due("9999 at most", bad.count(8), 9999);
    }

    private static void lastYear() {
        HangmanMayor t = Check.town("p;p");
        for (int i = 0; i < 16; i++) {
            t.martinmas(60);
        }
        Check.due("960", t.count(5), 960);
        Check.due("1000", t.martinmas(40), -1);
        Check.due("beyond", t.status(4), 1);
        Check.due("years beyond", t.years(40, 1), -1);
        Check.due("no status of years", t.status(4), 1);
        Check.due("bounds first", t.martinmas(61), -1);
        Check.due("998", t.years(38, 1), 998);
        Check.due("999", t.martinmas(1), 999);
        Check.due("none ends", t.martinmas(1), -1);
        Check.due("none ends", t.years(1, 1), -1);
        statuses("last", t, 0, 1, 0, 0, 2);
        Check.due("undone", t.undo(), 39);
        Check.due("998 again", t.count(5), 998);
        Check.due("999 again", t.years(1, 5), 999);
    }

    private static void longLog() {
        HangmanMayor t = Check.town("ps1v0;ps9v1");
        t.walks(5);
        t.martinmas(1);
        t.martinmas(59);
        Check.due("length", t.count(11), 60);
        Check.due("the first", t.log(59, 0), 0);
        Check.due("no more", t.log(60, 0), HangmanMayor.HIDDEN);
        t.martinmas(1);
        Check.due("length", t.count(11), 60);
        Check.due("the first is gone", t.log(59, 0), 1);
        t.undo();
        Check.due("and back", t.log(59, 0), 0);
        Check.due("length", t.count(11), 60);
        t.undo();
        Check.due("shorter", t.count(11), 59);
        Check.due("hidden", t.log(59, 0), HangmanMayor.HIDDEN);
        Check.due("the first", t.log(58, 0), 0);
    }

    private static void fate() {
        HangmanMayor t = new HangmanMayor();
        Check.due("it is so", t.fate(1), false);
        Check.due("below", t.fate(-1), false);
        Check.due("above", t.fate(10), false);
        Check.due("9", t.fate(9), true);
        Check.due("9 again", t.fate(9), false);
        Check.due("now", t.count(9), 9);
        Check.due("0", t.fate(0), true);
        Check.due("now", t.count(9), 0);
    }

    private static void years() {
        HangmanMayor t = Check.town("sm50;ps1;ps9;ps20");
        Check.due("n 0", t.years(0, 1), -1);
        Check.due("n 61", t.years(61, 1), -1);
        Check.due("years", t.years(10, 77), 10);
        Check.due("each is an act", t.count(12), 10);
        Check.due("for nothing", t.rule(3), 80);
        Check.due("log", t.count(11), 10);
        Check.due("60", t.years(60, -5), 70);
        statuses("years", t, 0, 0, 0, 0, 0);
        t = Check.town("ps1;ps9;ps20");
        t.fate(0);
        t.years(60, 123456789L);
        Check.due("no fate, nobody goes", t.most(8), 0);
        for (int i = 60; i > 20; i--) {
            Check.due("undone", t.undo(), i - 21);
        }
        Check.due("20 years", t.count(5), 20);
        Check.due("no more", t.undo(), -1);
    }

    /** The same draws done with the acts by hand, and what fate does with leaving. */
    private static void yearsByHand() {
        for (long seed = -40; seed < 40; seed++) {
            String text = "sm99c5;pc3v5s2;pc4k9s7;pc9k0s13;ps20;tg2n4;tw1g5n9";
            HangmanMayor drawn = Check.town(text);
            HangmanMayor byHand = Check.town(text);
            drawn.fate(4);
            drawn.years(6, seed * 1234567);
            long[] x = {seed * 1234567};
            for (int year = 0; year < 6; year++) {
                oneYear(byHand, x, 4);
            }
            for (int i = 5; i < 9; i++) {
                Check.due("count " + i, drawn.count(i), byHand.count(i));
            }
            for (int i = 0; i < 12; i++) {
                Check.due("most " + i, drawn.most(i), byHand.most(i));
            }
            for (int i = 0; i < 6; i++) {
                Check.due("log who", drawn.log(i, 0), byHand.log(i, 0));
                Check.due("log rest", drawn.log(i, 1), byHand.log(i, 1));
                Check.due("log troubles", drawn.log(i, 2), byHand.log(i, 2));
            }
        }
    }

    private static int draw(long[] x, int of) {
        x[0] = x[0] * 6364136223846793005L + 1442695040888963407L;
        return (int) ((x[0] >>> 33) % of);
    }

    private static void oneYear(HangmanMayor t, long[] x, int fate) {
        for (int i = 0; i < 3; i++) {
            t.walks(draw(x, 21));
        }
        int who = draw(x, 4);
        t.feigns(who, draw(x, 2));
        if (draw(x, 10) < fate) {
            t.leaves(draw(x, 4));
        }
        t.martinmas(1);
        t.give(2);
    }

    private static List<Integer> seen(HangmanMayor t) {
        List<Integer> all = new ArrayList<>();
        for (int i = 5; i < 12; i++) {
            all.add(t.count(i));
        }
        for (int i = 0; i < 12; i++) {
            all.add(t.most(i));
        }
        for (int p = 0; p < t.count(0); p++) {
            for (int what = 0; what < 7; what++) {
                all.add(t.person(p, what));
            }
        }
        for (int i = 0; i < t.count(1); i++) {
            all.add(t.trouble(i, 1));
        }
        all.add(t.rule(3));
        all.add(t.log(0, 0));
        return all;
    }

    private static void undo() {
        HangmanMayor t = Check.town("ps1;pv7s6;t;tw2n7");
        List<List<Integer>> before = new ArrayList<>();
        Runnable[] acts = {() -> t.walks(5), () -> t.feigns(0, 0), () -> t.feigns(1, 1), () -> t.leaves(1), () -> t.give(7),
            () -> t.martinmas(1), () -> t.walks(9), () -> t.years(1, 4), () -> t.martinmas(1), () -> t.leaves(1)};
        for (Runnable act : acts) {
            before.add(seen(t));
            act.run();
        }
        t.walks(99);
        Check.due("acts", t.count(12), acts.length);
        for (int i = acts.length - 1; i >= 0; i--) {
            Check.due("undo", t.undo(), i);
            Check.due("as it was", seen(t).equals(before.get(i)), true);
        }
        Check.due("none", t.undo(), -1);
        Check.due("status is not undone", t.status(1), 1);
    }

    /** Nobody's numbers get into another's. */
    private static void sixPersons() {
        HangmanMayor t = Check.town("sm99c1k0;ps1c0k0;ps2c1k0;ps3c2k0;ps4c1k0;ps5c1k0;ps6c0k0;tn9;tn8;tn7;tn6;tn5");
        for (int year = 0; year < 6; year++) {
            int door = 1 + year;
            for (int p = 0; p < 6; p++) {
                for (int i = 0; i <= p % 3; i++) {
                    t.feigns(p, year % 2);
                }
            }
            t.walks(door);
            for (int p = 0; p < 6; p++) {
                Check.due("met", Check.person(t, p, 4), p <= year ? 1 : 0);
                Check.due("seems " + year % 2, Check.person(t, p, year % 2), (year % 2 == 0 ? new int[] {0, 1, 2, 1, 1, 0}[p] : 0) + 2 * (p % 3 + 1));
                Check.due("the other trait", Check.person(t, p, 1 - year % 2), year % 2 == 0 ? 0 : new int[] {0, 1, 2, 1, 1, 0}[p]);
            }
            Check.due("asks, met in year 3", t.trouble(4, 1), new int[] {5, 4, 3, 2, 3, 2}[year]);
            t.martinmas(1);
            t.give(12);
        }
        int[] chains = {1, 1, 4, 0, 0, 0};
        for (int p = 0; p < 6; p++) {
            Check.due("chains of " + p, Check.person(t, p, 6), chains[p]);
        }
    }

    private static void undoForty() {
        HangmanMayor t = Check.town("p;p");
        for (int i = 0; i < 45; i++) {
            t.give(1);
        }
        Check.due("forty", t.count(12), 40);
        for (int i = 0; i < 10; i++) {
            t.undo();
        }
        Check.due("coins", t.rule(3), 55);
        for (int i = 0; i < 15; i++) {
            t.give(2);
        }
        Check.due("forty again", t.count(12), 40);
        for (int i = 0; i < 39; i++) {
            t.undo();
        }
        Check.due("one", t.count(12), 1);
        Check.due("the last", t.undo(), 0);
        Check.due("coins", t.rule(3), 30);
        Check.due("no more", t.undo(), -1);
    }
}
