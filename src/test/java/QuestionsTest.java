/** Promises 20 to 33: what is asked apart, and changes nothing. */
public final class QuestionsTest {
    private static final int HIDDEN = HangmanMayor.HIDDEN;

    public static void main(String[] args) {
        appeal();
        lead();
        feigning();
        feigningEdges();
        tour();
        tourRefused();
        given();
        likings();
        show();
        work();
        game();
        rests();
        odds();
        oddsCut();
        first();
        firstEdges();
        shares();
        most();
        Check.finish();
    }

    private static void appeal() {
        HangmanMayor t = Check.town("sc9k9v9;pc9k9v0;pc0k0v9;pc4k4v8s5");
        Check.due("162 is held", t.appeal(0), 99);
        Check.due("-81", t.appeal(1), -81);
        Check.due("0", t.appeal(2), 0);
        t.feigns(2, 1);
        Check.due("not met, feigned", t.appeal(2), 18);
        t.leaves(2);
        Check.due("away", t.appeal(2), 18);
        Check.due("nobody", t.appeal(3), HIDDEN);
        Check.rule(t, "y:0-200");
        Check.due("held below", t.appeal(0), -99);
    }

    private static void lead() {
        HangmanMayor t = Check.town("sc1k0v0;pc5s1;pc7s2;pc9s3;pc9s9");
        Check.due("not met", t.lead(0), HIDDEN);
        t.walks(1);
        Check.due("no other one", t.lead(0), 99);
        t.walks(3);
        Check.due("behind", t.lead(0), -4);
        Check.due("ahead", t.lead(2), 2);
        Check.due("not met", t.lead(3), HIDDEN);
        Check.due("nobody", t.lead(4), HIDDEN);
        Check.due("nobody", t.lead(-1), HIDDEN);
        t.leaves(2);
        Check.due("away ones do not count", t.lead(1), 2);
        Check.due("away", t.lead(2), HIDDEN);
    }

    private static void feigning() {
        HangmanMayor t = Check.town("sc2k1v0m50;pc1k1s1;pc3k2s1;pc9k9s9");
        Check.due("none is needed alone", t.feigning(0), 0);
        t.walks(2);
        Check.due("3 against 8: by no one, by 11 and 20, not by 2", t.feigning(0), 11);
        Check.due("8 is picked", t.feigning(1), 0);
        t.feigns(0, 0);
        Check.due("7 against 8: by 1 or 10", t.feigning(0), 1);
        t.walks(9);
        Check.due("by none", t.feigning(1), -1);
        t.leaves(2);
        Check.due("away", t.feigning(2), -1);
        Check.due("nobody", t.feigning(3), -1);
        Check.due("nobody", t.feigning(-1), -1);
        Check.due("coins do not matter, nothing changed", t.rule(3), 47);
    }

    private static void feigningEdges() {
        HangmanMayor t = Check.town("sc1k1v0m50;pc0k0s1;pc3k3s1");
        t.walks(1);
        Check.due("of as few the least: ties go to the lowest", t.feigning(0), 3);
        t = Check.town("sc1k1v0m50;pc3k3s1;pc0k0s1");
        t.walks(1);
        Check.due("more is needed, 4 times", t.feigning(1), 13);
        t.feigns(1, 1);
        t.feigns(1, 1);
        t.feigns(1, 1);
        Check.due("three a year with those he did", t.feigning(1), 10);
        t = Check.town("sc1k1v0m50;pc6k6s1;pc0k0s1");
        t.walks(1);
        Check.due("never", t.feigning(1), -1);
        t = Check.town("sc1k1v0m50;pc5k6s1;pc0k0s1");
        t.walks(1);
        Check.due("all six", t.feigning(1), 33);
        t.feigns(1, 0);
        Check.due("two and three", t.feigning(1), 23);
        t = Check.town("sc1k1v0m50;pc5k7s1;pc0k0s1");
        t.walks(1);
        t.feigns(1, 0);
        Check.due("no fourth of courage", t.feigning(1), -1);
        t = Check.town("sc1k0v0m50;pc5s1;pc0s1");
        t.walks(1);
        Check.due("courage alone", t.feigning(1), 30);
        t = Check.town("sc0k1v0m50;pk5s1;pk0s1");
        t.walks(1);
        Check.due("kindness alone", t.feigning(1), 3);
        t = Check.town("p;ps1");
        t.walks(1);
        t.walks(0);
        Check.rule(t, "y:m=2?9;y:m");
        Check.due("others as they are", t.feigning(1), -1);
        Check.due("met three times is less", t.feigning(0), -1);
        t.undo();
        Check.due("once more met", t.feigning(1), 0);
        t = Check.town("ps1;ps1");
        Check.rule(t, "y:m");
        t.walks(1);
        Check.due("more often met", t.feigning(1), 0);
        for (int i = 0; i < 8; i++) {
            t.walks(i % 2 == 0 ? 0 : 1);
        }
        Check.due("nine at most", t.feigning(1), -1);
    }

    private static void tours(HangmanMayor t, int persons, int steps, int end) {
        Check.due("tour " + persons, t.tour(persons, 0), steps);
        Check.due("tour " + persons + " ends", t.tour(persons, 1), end);
    }

    private static void tour() {
        HangmanMayor t = Check.town("ps0;ps5;ps5;ps9;ps20");
        tours(t, 1, 1, 1);
        tours(t, 2, 5, 5);
        tours(t, 7, 5, 5);
        tours(t, 17, 20, 20);
        t.walks(5);
        tours(t, 6, 1, 4);
        tours(t, 2, 1, 4);
        tours(t, 3, 5, 0);
        tours(t, 8, 4, 9);
        tours(t, 9, 13, 0);
        tours(t, 17, 25, 20);
        t.walks(20);
        tours(t, 16, 1, 19);
        tours(t, 24, 11, 9);
        t.walks(10);
        tours(t, 17, 30, 0);
        t.walks(15);
        Check.due("steps", t.count(7), 35);
        tours(t, 31, 25, 0);
        t.martinmas(1);
        t.walks(1);
        tours(t, 1, 1, 0);
        HangmanMayor near = Check.town("ps1;ps2");
        near.walks(1);
        tours(near, 1, 1, 0);
        near.walks(2);
        tours(near, 2, 1, 1);
        tours(near, 3, 1, 1);
        t.walks(15);
        t.walks(20);
        t.walks(10);
        t.walks(15);
        t.walks(20);
        Check.due("steps there are do not matter", t.tour(1, 0), 20);
        Check.due("nothing changed", t.count(6), 20);
    }

    private static void tourRefused() {
        HangmanMayor t = Check.town("ps4;ps7");
        Check.due("nobody", t.tour(0, 0), -1);
        Check.due("no such", t.tour(4, 0), -1);
        Check.due("one no such", t.tour(5, 0), -1);
        Check.due("below", t.tour(-1, 0), -1);
        Check.due("no such what", t.tour(3, 2), -1);
        Check.due("no such what", t.tour(3, -1), -1);
        t.leaves(1);
        Check.due("one away", t.tour(3, 0), -1);
        tours(t, 1, 4, 4);
        Check.due("no town", new HangmanMayor().tour(1, 0), -1);
    }

    private static void given() {
        HangmanMayor t = Check.town("p;p;p");
        Check.due("just one", t.given(1, 0, true), -1);
        Check.due("nobody", t.given(0, 0, true), -1);
        Check.due("no such", t.given(9, 0, true), -1);
        Check.due("below", t.given(-1, 0, true), -1);
        Check.due("not among them", t.given(3, 2, true), -1);
        Check.due("not at all", t.given(3, 32, true), -1);
        Check.due("not at all", t.given(3, -1, true), -1);
        Check.due("none yet", t.count(10), 0);
        for (int i = 1; i <= 10; i++) {
            Check.due("given", t.given(7, 0, true), i);
        }
        Check.due("there are ten", t.given(7, 0, true), -1);
        Check.due("ten", t.count(10), 10);
        Check.due("no town", new HangmanMayor().given(3, 0, true), -1);
    }

    private static void likings() {
        HangmanMayor t = Check.town("pc1k0v0;pc0k1v0;pc0k0v1");
        Check.due("all", t.likings(-1), 1000);
        Check.due("the last", t.likings(999), 999);
        Check.due("none", t.likings(1000), -1);
        Check.due("none", t.likings(-2), -1);
        t.given(3, 1, true);
        Check.due("kindness more than courage", t.likings(-1), 450);
        Check.due("first", t.likings(0), 10);
        Check.due("last", t.likings(449), 899);
        t.given(6, 2, true);
        Check.due("the vain one is never ahead", t.likings(-1), 0);
        Check.due("none", t.likings(0), -1);
        t = Check.town("pc1k0v0;pc0k1v0;pc0k0v1");
        t.given(7, 0, false);
        t.leaves(1);
        t.feigns(0, 0);
        Check.rule(t, "y:5");
        Check.due("as told, without a law", t.likings(-1), 450);
        Check.due("third", t.likings(2), 12);
        t = Check.town("pc9k0v0;pc9k9v0");
        t.given(3, 0, true);
        Check.due("no kindness, 10 of courage and vanity", t.likings(-1), 100);
        t = Check.town("pc9k8v0;pc9k9v0");
        t.given(3, 0, true);
        Check.due("alike without kindness, and 28 times both are held at 99", t.likings(-1), 100 + 280);
        Check.due("no town", new HangmanMayor().likings(-1), -1);
    }

    private static void show() {
        HangmanMayor t = Check.town("pc9k9v0;pc0k0v9;pc5k0v0;pc0k5v0");
        Check.due("courage against kindness", t.show(), 23);
        t = Check.town("pc9k9v0;pc0k0v9;pc5k0v0;pc0k5v5;pc0k6v4");
        t.given(28, 2, false);
        Check.due("by what fits", t.show(), 23);
        t = Check.town("pc0;pc1;pc2;pc2;pk9");
        t.given(12, 2, false);
        Check.due("nothing fits", t.show(), -1);
        t = Check.town("pc0k0v0;pc1k0v0;pc0k1v0;pc0k0v1");
        t.given(3, 0, true);
        t.given(5, 0, true);
        t.given(9, 3, false);
        Check.due("courage 0, kindness 0", t.likings(-1), 10);
        Check.due("their last", t.likings(9), 9);
        t.given(9, 0, true);
        Check.due("with 0 against vanity, too", t.likings(0), 0);
        t = Check.town("pc9k0v9;pc0k0v0;pc0k1v0;pc8k0v8");
        t.given(3, 0, false);
        Check.due("against vanity more than courage", t.likings(-1), 450);
        t.given(9, 3, true);
        t.given(6, 2, false);
        Check.due("no kindness", t.likings(-1), 45);
        Check.due("the first", t.likings(0), 1);
        Check.due("the last", t.likings(44), 809);
        Check.due("the tenth", t.likings(9), 102);
        t = Check.town("pc0k0v1;pc0k0v0;pc1k0v0;pc0k1v0");
        t.given(3, 0, true);
        t.given(6, 1, true);
        t.given(10, 1, true);
        Check.due("just one is left", t.likings(-1), 1);
        Check.due("000", t.likings(0), 0);
        Check.due("one is enough", t.show(), 1);
        Check.due("sure, all", t.show(), 1);
        t = Check.town("p;p;p");
        Check.due("alike: the least", t.show(), 1);
        t.given(3, 0, false);
        Check.due("nothing fits", t.show(), -1);
        Check.due("no town", new HangmanMayor().show(), -1);
        t = Check.town("pc9k9v0;pc5k0v0;pc0k5v0;pc0k0v0");
        t.given(6, 2, true);
        Check.due("still some are apart", t.likings(-1), 450);
        Check.due("all are as sure: the least", t.show(), 1);
    }

    private static void work() {
        HangmanMayor t = Check.town("pc9k9v9;pc5k0v0;pc0k5v0;tw0n5g3;tw1n5g4;tw2n5g9;tw0n9g8");
        Check.due("0 for the vain one's", t.work(0), 1209);
        Check.due("3 + 4 + 9", t.work(1), 16);
        t.leaves(1);
        Check.due("one away", t.work(0), 9209);
        Check.due("4 + 9", t.work(1), 13);
        t.leaves(0);
        Check.due("two away", t.work(0), 9299);
        Check.due("4", t.work(1), 4);
        t.leaves(2);
        Check.due("nobody", t.work(0), 9999);
        Check.due("nothing", t.work(1), 0);
        Check.due("no such what", t.work(2), -1);
        Check.due("no such what", t.work(-1), -1);
        t = Check.town("p;p");
        Check.due("no trouble", t.work(0), -1);
        Check.due("none", t.work(1), 0);
        Check.due("no town", new HangmanMayor().work(1), -1);
        t = Check.town("pc5;pc5;tn5;tn5");
        Check.due("the least row", t.work(0), 1);
        t.feigns(0, 0);
        t.martinmas(1);
        Check.due("as it asks now", t.work(0), 99);
        t = Check.town("pc5;pc9;tn5g2;tn6g2");
        Check.due("0 and 1", t.work(0), 1);
        t = Check.town("pc9;pc5;tn5g2;tn6g2");
        Check.due("1 and 0", t.work(0), 10);
    }

    private static void game() {
        HangmanMayor t = Check.town("sc2k1v0m30;pc4k4s1;pc3k4s9;pc0k0s5;pc9k9s20");
        Check.due("one ahead", t.game(0, 1, 0, 0, 0), 6);
        Check.due("other", t.game(0, 1, 0, 0, 1), 0);
        Check.due("other feigns", t.game(0, 1, 0, 1, 1), 5);
        Check.due("one has", t.game(0, 1, 0, 1, 0), 0);
        Check.due("both thrice", t.game(0, 1, 3, 3, 0), 3);
        Check.due("both thrice", t.game(0, 1, 3, 3, 1), -3);
        t.feigns(1, 0);
        t.feigns(1, 0);
        Check.due("instead of how often", t.game(0, 1, 0, 0, 0), 6);
        t.feigns(1, 1);
        t.feigns(1, 1);
        t.feigns(1, 1);
        Check.due("kindness as they did", t.game(0, 1, 0, 0, 1), 6);
        Check.due("the other way round", t.game(1, 0, 0, 0, 0), 6);
        t.walks(20);
        Check.due("another is picked", t.game(0, 1, 1, 2, 0), -1);
        Check.due("another is picked", t.game(0, 1, 1, 2, 1), -2);
        int[][] none = {{0, 0, 0, 0, 0}, {0, 4, 0, 0, 0}, {-1, 0, 0, 0, 0}, {0, 1, -1, 0, 0}, {0, 1, 4, 0, 0},
            {0, 1, 0, -1, 0}, {0, 1, 0, 4, 0}, {0, 1, 0, 0, 2}, {0, 1, 0, 0, -1}};
        for (int[] g : none) {
            Check.due("no game", t.game(g[0], g[1], g[2], g[3], g[4]), HIDDEN);
        }
        t.leaves(1);
        Check.due("one away", t.game(0, 1, 0, 0, 0), HIDDEN);
        Check.due("other away", t.game(1, 0, 0, 0, 0), HIDDEN);
        Check.rule(t, "y:m");
        Check.due("met once more, both", t.game(0, 2, 0, 0, 0), 6);
        Check.due("nothing changed", Check.person(t, 0, 4), 1);
    }

    private static void rests() {
        HangmanMayor t = Check.town("sc9k0v0;pc9s1;pc1s1;p");
        Check.due("one is ahead anyway", t.rests(0, 1, -1), 1);
        Check.due("00", t.rests(0, 1, 0), 0);
        Check.due("no other", t.rests(0, 1, 1), -1);
        Check.due("below", t.rests(0, 1, -2), -1);
        Check.due("the other way", t.rests(1, 0, 0), 0);
        t = Check.town("sc1k0v0;pc4s1;pc3s1;pc4s9");
        Check.due("they chase each other", t.rests(0, 1, -1), 0);
        Check.due("none", t.rests(0, 1, 0), -1);
        t = Check.town("sc1k0v0;pc5s1;pc4s1;pc9s2");
        t.walks(2);
        Check.due("as high as 9 by two feigns, the lower wins", t.rests(0, 1, -1), 1);
        Check.due("20", t.rests(0, 1, 0), 20);
        Check.due("alike", t.rests(1, 1, -1), -1);
        Check.due("nobody", t.rests(0, 3, -1), -1);
        Check.due("nobody", t.rests(-1, 0, -1), -1);
        t.leaves(1);
        Check.due("away", t.rests(0, 1, -1), -1);
        t = Check.town("sc1k0v0;pc9s9;pc3s9;pc9s2;pc2s9");
        t.walks(2);
        Check.due("thrice to be ahead of 2", t.rests(1, 3, -1), 1);
        Check.due("30", t.rests(1, 3, 0), 30);
        Check.due("3 the other way", t.rests(3, 1, 0), 3);
        t = Check.town("p;p");
        Check.rule(t, "y:1");
        Check.due("feigning is for nothing", t.rests(0, 1, -1), 1);
        Check.due("no town", new HangmanMayor().rests(0, 1, -1), -1);
        Check.rule(t, "y:c=8&k=4?9;y:0-c");
        Check.due("who wins by 2 would by 0, did the other not feign", t.rests(0, 1, -1), 0);
    }

    private static void odds() {
        HangmanMayor t = Check.town("sc1k0v0;pc5v9;pc7v1;pc9v1");
        Check.due("all met", t.odds(2, 100), 1000000000);
        Check.due("nobody met: the vainest", t.odds(0, 0), 1000000000);
        Check.due("half", t.odds(2, 50), 500000000);
        Check.due("a quarter", t.odds(1, 50), 250000000);
        Check.due("an eighth and by the rest", t.odds(0, 50), 250000000);
        t.leaves(2);
        Check.due("away", t.odds(2, 50), 0);
        Check.due("half then", t.odds(1, 50), 500000000);
        t.walks(1);
        Check.due("instead of how often they were", t.odds(1, 0), 0);
        Check.due("nobody", t.odds(3, 50), -1);
        Check.due("nobody", t.odds(-1, 50), -1);
        Check.due("101", t.odds(0, 101), -1);
        Check.due("-1", t.odds(0, -1), -1);
        Check.rule(t, "y:m=1?c;y:0-c");
        t.walks(0);
        t.walks(1);
        Check.due("once", t.odds(1, 100), 1000000000);
        t.feigns(0, 0);
        t.feigns(0, 0);
        Check.due("feigned as they did", t.odds(0, 100), 1000000000);
    }

    private static void oddsCut() {
        HangmanMayor few = Check.town("sm9c1k0v0;pc5v0;pc6v0;pc9v9;pc7v0;pc8v1");
        few.leaves(2);
        Check.due("behind one away", few.odds(3, 10), 90000000);
        Check.due("further behind", few.odds(4, 10), 100000000 + 656100000);
        few.leaves(3);
        Check.due("behind two", few.odds(4, 10), 100000000 + 729000000);
        Check.due("ahead of them", few.odds(1, 10), 90000000);
        HangmanMayor t = Check.town("sc1k0v0;pc9v0;pc8v0;pc7v0;pc6v0;pc5v0;pc4v9");
        long left = 1000000000L;
        for (int i = 0; i < 5; i++) {
            long met = left * 33 / 100;
            Check.due("the " + i + "th met first", t.odds(i, 33), met);
            left -= met;
        }
        Check.due("what is left", t.odds(5, 33), left);
        t = Check.town("sc1k0v0;pc4v0;pc5v0;pc6v0;pc7v0;pc8v0;pc9v0");
        long[] parts = new long[6];
        split(parts, 0, 1000000000L, 0);
        for (int i = 0; i < 6; i++) {
            Check.due("cut by numbers " + i, t.odds(i, 7), parts[i]);
        }
    }

    /** The last one met is the bravest there; with nobody met the first one is picked. */
    private static void split(long[] parts, int next, long left, int last) {
        if (next == 6) {
            parts[last] += left;
            return;
        }
        long met = left * 7 / 100;
        split(parts, next + 1, met, next);
        split(parts, next + 1, left - met, last);
    }

    private static void first() {
        HangmanMayor t = Check.town("pc9v0s1;pv5s9;pv5s9");
        Check.due("the vainest", t.first(1), 1);
        Check.due("never", t.first(2), -1);
        Check.due("not met", t.first(0), -1);
        t.walks(1);
        Check.due("picked now", t.first(0), 1);
        Check.due("behind him", t.first(1), 2);
        t.leaves(1);
        Check.due("the next vainest", t.first(2), 2);
        Check.due("away", t.first(1), -1);
        Check.due("nobody", t.first(3), -1);
        Check.due("nobody", t.first(-1), -1);
        Check.due("no town", new HangmanMayor().first(0), -1);
        Check.due("nothing changed", t.count(5), 0);
    }

    private static void firstEdges() {
        HangmanMayor t = Check.town("p;p;tg9");
        t.martinmas(60);
        t.martinmas(38);
        Check.due("98", t.first(0), 1);
        t.martinmas(1);
        Check.due("99 is the most", t.first(0), -1);
        for (int i = 0; i < 15; i++) {
            t.martinmas(60);
        }
        Check.due("999", t.count(5), 999);
        t.leaves(0);
        Check.due("years go on behind 999", t.first(1), 1);
    }

    private static void shares() {
        HangmanMayor t = Check.town("pv0s1;pv9s5");
        Check.due("none", t.shares(0, 999), 0);
        t.walks(2);
        t.martinmas(3);
        Check.due("one of three", t.shares(0, 100), 33);
        Check.due("two of three", t.shares(1, 100), 66);
        Check.due("of 999", t.shares(1, 999), 666);
        HangmanMayor six = Check.town("p;p;p;p;p;pv9;tn9;tn9");
        six.martinmas(1);
        Check.due("all of it", six.shares(5, 999), 999);
        Check.due("chained", six.most(1), 5);
        six = Check.town("pv1;pv3;pv2");
        six.martinmas(1);
        Check.due("chained", six.most(1), 1);
        Check.due("of 0", t.shares(1, 0), 0);
        Check.due("of 1000", t.shares(1, 1000), -1);
        Check.due("of -1", t.shares(1, -1), -1);
        Check.due("nobody", t.shares(2, 9), -1);
        Check.due("nobody", t.shares(-1, 9), -1);
    }

    private static void most() {
        HangmanMayor t = Check.town("sc1k1v1;pc1k2v5s1;pc8k2v5s2;pc8k9v1s3;pc3k9v9s4;tw0n8g5;tw1n9g7;tw2n3g7");
        int[] first = {2, 0, 3, 1, 2, 1, 3, 0, 0, 1, 0, 0};
        for (int i = 0; i < 12; i++) {
            Check.due("at first most(" + i + ")", t.most(i), first[i]);
        }
        t.walks(2);
        t.leaves(1);
        t.leaves(2);
        int[] later = {2, 0, 3, 1, 2, 1, 0, 3, 6, 3, 0, 0};
        for (int i = 0; i < 12; i++) {
            Check.due("later most(" + i + ")", t.most(i), later[i]);
        }
        t.feigns(0, 0);
        t.feigns(0, 0);
        t.feigns(0, 0);
        Check.due("bravest as told", t.most(3), 1);
        t.martinmas(2);
        Check.due("chained, of several the lowest", t.most(1), 0);
        t.martinmas(1);
        Check.due("chained", t.most(1), 3);
        Check.due("by the rest", t.most(10), 2);
        Check.due("by him", t.most(11), 1);
        Check.due("no such", t.most(12), -1);
        Check.due("no such", t.most(-1), -1);
        Check.due("no trouble", Check.town("p;p").most(5), -1);
        Check.due("nothing open", Check.town("p;p").most(9), 0);
    }
}
