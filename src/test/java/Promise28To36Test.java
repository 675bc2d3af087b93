import java.util.List;

/** The boundary cases of promises 28 to 36, sentence by sentence: games, odds, firsts, shares, most, images, counts. */
public final class Promise28To36Test {
    private static final int NONE = HangmanMayor.NONE;
    private static final int HIDDEN = HangmanMayor.HIDDEN;
    private static final int[] NO_PERSONS = {-1, 6, 7, 31, 32, 33, Integer.MIN_VALUE, Integer.MAX_VALUE};
    private static final int[] NO_FEIGNING = {-1, 4, Integer.MIN_VALUE, Integer.MAX_VALUE};
    private static final int ALL_PARTS = 1000000000;
    private static final String SIX = "p;p;p;p;p;p";

    public static void main(String[] args) {
        Promises.run(Promise28To36Test.class);
    }

    // ---- 28: game

    private static void games(HangmanMayor t, int x, int y, int one, int other) {
        Check.due("one by " + x + ", " + y, t.game(0, 1, x, y, 0), one);
        Check.due("other by " + x + ", " + y, t.game(0, 1, x, y, 1), other);
        Check.due("the other way round", t.game(1, 0, y, x, 1), one);
        Check.due("the other way round", t.game(1, 0, y, x, 0), other);
    }

    private static void promise28_noSuchOnesAlike() {
        HangmanMayor t = Check.town(SIX);
        for (int p : NO_PERSONS) {
            Check.due("one " + p, t.game(p, 0, 0, 0, 0), HIDDEN);
            Check.due("other " + p, t.game(0, p, 0, 0, 0), HIDDEN);
            Check.due("both " + p, t.game(p, p, 0, 0, 0), HIDDEN);
        }
        for (int p = 0; p < 6; p++) {
            Check.due("alike", t.game(p, p, 0, 0, 0), HIDDEN);
        }
        Check.due("the last two", t.game(4, 5, 0, 0, 0), 6);
    }

    private static void promise28_oneAway() {
        HangmanMayor t = Check.town("p;p;p");
        t.leaves(1);
        Check.due("the other", t.game(0, 1, 0, 0, 0), HIDDEN);
        Check.due("the one", t.game(1, 0, 0, 0, 0), HIDDEN);
        Check.due("a third", t.game(0, 2, 0, 0, 0), 6);
    }

    private static void promise28_outOfBounds() {
        HangmanMayor t = Check.town("p;p");
        for (int n : NO_FEIGNING) {
            Check.due("x " + n, t.game(0, 1, n, 0, 0), HIDDEN);
            Check.due("y " + n, t.game(0, 1, 0, n, 0), HIDDEN);
        }
        for (int what : new int[] {-1, 2, Integer.MIN_VALUE, Integer.MAX_VALUE}) {
            Check.due("what " + what, t.game(0, 1, 0, 0, what), HIDDEN);
        }
        games(t, 3, 3, 3, -3);
    }

    private static void promise28_sixIfPickedLessHisFeigning() {
        HangmanMayor t = Check.town("p;p");
        games(t, 0, 0, 6, 0);
        games(t, 1, 0, 5, 0);
        games(t, 0, 1, 0, 5);
        games(t, 1, 1, 5, -1);
        games(t, 2, 3, -2, 3);
        games(t, 3, 2, 3, -2);
    }

    private static void promise28_neitherIsPicked() {
        HangmanMayor t = Check.town("p;p;pc9k9v0s1");
        t.walks(1);
        games(t, 0, 0, 0, 0);
        games(t, 3, 3, -3, -3);
        t.leaves(2);
        games(t, 3, 3, 3, -3);
        t.leaves(2);
        t.martinmas(1);
        games(t, 0, 0, 6, 0);
    }

    private static void promise28_insteadOfHowOftenTheyDid() {
        HangmanMayor t = Check.town("p;p");
        Check.times(3, () -> t.feigns(1, 0));
        games(t, 0, 0, 6, 0);
        Check.due("and they did still", Check.person(t, 1, 0), 9);
        t.feigns(1, 1);
        games(t, 0, 0, 0, 6);
    }

    private static void promise28_bothMetOnceMoreNineAtMost() {
        HangmanMayor t = Check.town("ps5;ps1");
        Check.rule(t, "y:m=10?50;y:m");
        games(t, 0, 0, 6, 0);
        t.walks(1);
        games(t, 0, 0, 0, 6);
        Check.times(12, () -> t.walks(t.count(6) == 1 ? 0 : 1));
        Check.due("nine times", Check.person(t, 1, 4), 9);
        games(t, 0, 0, 0, 6);
        HangmanMayor alike = Check.town("ps1;ps1");
        Check.rule(alike, "y:m=10?50;y:c=9&m=9?60;y:m");
        Check.times(9, () -> alike.walks(1 - alike.count(6)));
        games(alike, 0, 3, 0, 3);
    }

    // ---- 29: rests

    private static void promise29_noSuchOnes() {
        HangmanMayor t = Check.town(SIX);
        for (int p : NO_PERSONS) {
            Check.due("one " + p, t.rests(p, 0, NONE), NONE);
            Check.due("other " + p, t.rests(0, p, NONE), NONE);
        }
        Check.due("alike", t.rests(5, 5, NONE), NONE);
        t.leaves(5);
        Check.due("other away", t.rests(0, 5, NONE), NONE);
        Check.due("one away", t.rests(5, 0, NONE), NONE);
        Check.due("no town", new HangmanMayor().rests(0, 1, NONE), NONE);
    }

    private static void promise29_thereIsNone() {
        HangmanMayor t = Check.town("p;p");
        Check.due("each goes one further", t.rests(0, 1, NONE), 0);
        Check.due("no first", t.rests(0, 1, 0), NONE);
    }

    private static void promise29_thereIsOne() {
        HangmanMayor t = Check.town("ps1;pc0s1;pc5s1");
        t.walks(1);
        Check.due("one", t.rests(0, 1, NONE), 1);
        Check.due("the one feigns once", t.rests(0, 1, 0), 10);
        Check.due("the other way round", t.rests(1, 0, 0), 1);
        for (int i : new int[] {1, 15, 16, -2, Integer.MIN_VALUE, Integer.MAX_VALUE}) {
            Check.due("rests " + i, t.rests(0, 1, i), NONE);
        }
    }

    private static void promise29_neitherFeignsForNothing() {
        HangmanMayor t = Check.town("p;p;pc9k9v0s1");
        t.walks(1);
        Check.due("one", t.rests(0, 1, NONE), 1);
        Check.due("00", t.rests(0, 1, 0), 0);
    }

    private static void promise29_threeTimesIsTheFarthest() {
        HangmanMayor t = Check.town("sc1k0v0;pc0s1;pc0s1;pc5s1");
        t.walks(1);
        Check.due("6 against 5, the lower", t.rests(0, 1, 0), 30);
        Check.due("how many", t.rests(1, 0, NONE), 1);
        Check.due("the other way round", t.rests(1, 0, 0), 3);
        HangmanMayor never = Check.town("sc1k0v0;pc0s1;pc0s1;pc7s1");
        never.walks(1);
        Check.due("6 against 7", never.rests(0, 1, 0), 0);
    }

    // ---- 30: odds

    private static void promise30_noSuchPersonOutOfBounds() {
        HangmanMayor t = Check.town(SIX);
        for (int p : NO_PERSONS) {
            Check.due("person " + p, t.odds(p, 50), NONE);
        }
        for (int chance : new int[] {-1, 101, Integer.MIN_VALUE, Integer.MAX_VALUE}) {
            Check.due("chance " + chance, t.odds(0, chance), NONE);
        }
        t.leaves(0);
        Check.due("away and out of bounds", t.odds(0, 101), NONE);
    }

    private static void promise30_chance0And100() {
        HangmanMayor t = Check.town("sc1k0v0;pc1v0;pc9v1;pc5v9");
        Check.due("all are met: the bravest", t.odds(1, 100), ALL_PARTS);
        Check.due("all are met", t.odds(2, 100), 0);
        Check.due("nobody is met: the vainest, by the rest", t.odds(2, 0), ALL_PARTS);
        Check.due("nobody is met", t.odds(1, 0), 0);
    }

    private static void promise30_whoIsAway() {
        HangmanMayor t = Check.town("sc1k0v0;pc1v0;pc9v9");
        t.walks(9);
        t.leaves(1);
        Check.due("away", t.odds(1, 100), 0);
        Check.due("away", t.odds(1, 0), 0);
        Check.due("alone", t.odds(0, 0), ALL_PARTS);
        Check.due("alone", t.odds(0, 100), ALL_PARTS);
        Check.due("alone", t.odds(0, 50), ALL_PARTS);
        t.leaves(0);
        Check.due("nobody in town", t.odds(0, 50), 0);
    }

    /** All alike: the lowest of those who are met, or person 0 of all. */
    private static void promise30_eachPartIsCut() {
        HangmanMayor t = Check.town(SIX);
        Check.due("950990050 parts are left for the last one, 9509900.5 of them cut", t.odds(5, 1), 9509900);
        Check.due("met, or nobody is", t.odds(0, 1), 10000000 + 950990050 - 9509900);
        Check.due("9702990 of 970299000", t.odds(3, 1), 9702990);
        Check.due("9605960.1 cut", t.odds(4, 1), 9605960);
    }

    /** The last one is picked whenever he is met: the sum of 32 parts, of which those of four met before him are ten at most. */
    private static void promise30_smallPartsAreCutToNothing() {
        HangmanMayor t = Check.town("sc1k0v0;pc4v9;pc5;pc6;pc7;pc8;pc9");
        Check.due("32 parts, each cut", t.odds(5, 1), lastMet(0, ALL_PARTS));
        Check.due("less than a 100th of all", t.odds(5, 1) < ALL_PARTS / 100, true);
        long all = 0;
        for (int p = 0; p < 6; p++) {
            all += t.odds(p, 1);
        }
        Check.due("no part is lost", all, ALL_PARTS);
    }

    private static long lastMet(int next, long parts) {
        long met = parts / 100;
        return next == 5 ? met : lastMet(next + 1, met) + lastMet(next + 1, parts - met);
    }

    private static void promise30_insteadOfHowOftenTheyWereMet() {
        HangmanMayor t = Check.town("ps1;ps9");
        Check.rule(t, "y:m");
        t.walks(9);
        t.walks(8);
        t.walks(9);
        Check.due("each once: the lower", t.odds(1, 100), 0);
        Check.due("the lower", t.odds(0, 100), ALL_PARTS);
        Check.due("a half of a half", t.odds(1, 50), 250000000);
    }

    private static void promise30_metOnce() {
        HangmanMayor lower = Check.town("pc9;pc5");
        Check.rule(lower, "y:m=1?c;y:0-c");
        lower.walks(20);
        lower.walks(0);
        Check.due("the lower", lower.odds(0, 100), ALL_PARTS);
        HangmanMayor higher = Check.town("pc5;pc9");
        Check.rule(higher, "y:m=1?c;y:0-c");
        Check.due("the higher", higher.odds(1, 100), ALL_PARTS);
        Check.due("nobody else", higher.odds(0, 100), 0);
    }

    private static void promise30_whoIsBehindOneAwayIsMetToo() {
        for (int away = 0; away < 3; away++) {
            HangmanMayor t = Check.town("sc1k0v0;pc1v0;pc1v0;pc1v0;pc9v0");
            t.leaves(away);
            Check.due("all met", t.odds(3, 100), ALL_PARTS);
            Check.due("by a half", t.odds(3, 50), ALL_PARTS / 2);
            int next = away == 0 ? 1 : 0;
            Check.due("the lowest or by the rest", t.odds(next, 50), ALL_PARTS / 4 + ALL_PARTS / 8);
            Check.due("behind the one away", t.odds(away == 2 ? 1 : 2, 50), ALL_PARTS / 8);
        }
    }

    private static void promise30_feigningIsAsItIsNow() {
        HangmanMayor t = Check.town("sc1k0v0;pc5;pc6;pc0;pc0;pc0;pc0");
        Check.due("6 against 5", t.odds(1, 100), ALL_PARTS);
        t.feigns(0, 0);
        Check.due("6 against 7", t.odds(0, 100), ALL_PARTS);
    }

    // ---- 31: first

    private static void promise31_noSuchPerson() {
        HangmanMayor t = Check.town(SIX);
        for (int p : NO_PERSONS) {
            Check.due("person " + p, t.first(p), NONE);
        }
    }

    private static void promise31_thisYearAsItIsThenTheRest() {
        HangmanMayor t = Check.town("pv0s1;pv5s9;pv5s9;pv1s1");
        Check.due("nobody met: the vainest", t.first(1), 1);
        Check.due("never", t.first(0), NONE);
        t.walks(1);
        Check.due("picked now", t.first(0), 1);
        Check.due("the vainest, in the next year", t.first(1), 2);
        Check.due("as vain, but higher", t.first(2), NONE);
        Check.due("met, but behind", t.first(3), NONE);
    }

    private static void promise31_feigningIsOfThisYear() {
        HangmanMayor t = Check.town("sc1k0v0;pc5s1v0;pc4s1v0;pv9s9");
        t.walks(1);
        t.feigns(1, 0);
        Check.due("by feigning", t.first(1), 1);
        Check.due("never", t.first(0), NONE);
        Check.due("the vainest", t.first(2), 2);
    }

    private static void promise31_whoIsAwayOrNobodyInTown() {
        HangmanMayor t = Check.town("pv9;pv1");
        t.leaves(0);
        Check.due("away", t.first(0), NONE);
        Check.due("in town", t.first(1), 1);
        t.leaves(1);
        Check.due("nobody", t.first(1), NONE);
    }

    private static void promise31_aChainOf99IsNeverMore() {
        HangmanMayor t = Check.town("p;p");
        t.martinmas(60);
        t.martinmas(38);
        Check.due("98", t.first(0), 1);
        t.martinmas(1);
        Check.due("99", t.first(0), NONE);
    }

    private static void promise31_yearsGoOnBehind999() {
        HangmanMayor t = Scenes.late();
        t.martinmas(1);
        Check.due("999", t.count(5), 999);
        t.walks(4);
        Check.due("picked now", t.first(0), 1);
        Check.due("the vainest has 99", t.first(1), NONE);
        HangmanMayor low = Check.town("ps1v0;ps9v1;ps9v5");
        low.leaves(2);
        Check.times(16, () -> low.martinmas(60));
        low.martinmas(39);
        low.leaves(2);
        low.walks(1);
        Check.due("behind 999", low.first(2), 2);
        Check.due("the year is as it was", low.count(5), 999);
    }

    // ---- 32: shares

    private static void promise32_noSuchPersonOutOfBounds() {
        HangmanMayor t = Check.town(SIX);
        t.martinmas(1);
        for (int p : NO_PERSONS) {
            Check.due("person " + p, t.shares(p, 9), NONE);
        }
        for (int c : new int[] {-1, 1000, Integer.MIN_VALUE, Integer.MAX_VALUE}) {
            Check.due("c " + c, t.shares(0, c), NONE);
        }
        Check.due("0", t.shares(0, 0), 0);
        Check.due("999", t.shares(0, 999), 999);
    }

    private static void promise32_noneHadTheChain() {
        HangmanMayor t = Check.town("p;p");
        Check.due("0 of 999", t.shares(0, 999), 0);
        t.leaves(0);
        t.leaves(1);
        t.martinmas(5);
        Check.due("nobody was picked", t.shares(1, 999), 0);
        Check.due("out of bounds all the same", t.shares(1, 1000), NONE);
        Check.due("below 0 all the same", t.shares(1, -1), NONE);
    }

    private static void promise32_whoseShareIsNothing() {
        HangmanMayor t = Check.town("pv9;p");
        t.martinmas(1);
        Check.due("0 of 999", t.shares(1, 999), 0);
        Check.due("too large", t.shares(1, 1000), NONE);
        Check.due("below 0", t.shares(1, -1), NONE);
    }

    private static void promise32_feigningIsNoChain() {
        HangmanMayor t = Check.town("pv9;p;p;p;p;p");
        t.martinmas(1);
        for (int p = 0; p < 6; p++) {
            t.feigns(p, 0);
            t.feigns(p, 1);
        }
        Check.due("all of it still", t.shares(0, 999), 999);
    }

    private static void promise32_allOfSix() {
        HangmanMayor t = Check.town("p;p;p;p;p;pv9;tn9;tn9;tn9;tn9;tn9");
        t.martinmas(2);
        Check.due("all of it", t.shares(5, 999), 999);
        t.leaves(5);
        t.martinmas(2);
        Check.due("the half", t.shares(5, 999), 499);
        Check.due("the half", t.shares(0, 999), 499);
        Check.due("nothing", t.shares(1, 999), 0);
    }

    private static void promise32_cut() {
        HangmanMayor t = Check.town("ps1;pv9s9");
        t.walks(1);
        t.martinmas(3);
        int[][] due = {{0, 0, 0}, {1, 0, 0}, {2, 0, 1}, {3, 1, 2}, {100, 33, 66}, {999, 333, 666}};
        for (int[] row : due) {
            Check.due("one of three, c " + row[0], t.shares(0, row[0]), row[1]);
            Check.due("two of three, c " + row[0], t.shares(1, row[0]), row[2]);
        }
        t.leaves(1);
        Check.due("away or not", t.shares(1, 999), 666);
    }

    private static void promise32_by99AtMost() {
        HangmanMayor t = Check.town("ps1;pv9s9");
        t.walks(1);
        t.martinmas(60);
        t.martinmas(60);
        Check.due("1 of 100", t.shares(0, 999), 9);
        Check.due("99 of 100", t.shares(1, 999), 989);
    }

    // ---- 33: most

    private static void promise33_noSuchWhat() {
        HangmanMayor t = Check.town("p;p");
        for (int what : new int[] {-1, 12, Integer.MIN_VALUE, Integer.MAX_VALUE}) {
            Check.due("most " + what, t.most(what), NONE);
        }
        for (int what = 0; what < 12; what++) {
            Check.due("no town", new HangmanMayor().most(what), NONE);
        }
    }

    private static void promise33_ofSeveralTheLowest() {
        HangmanMayor t = Check.town("pc1k1v1;pc9k9v9;pc9k9v9;tg1;tg9;tg9");
        Check.rule(t, "y:c");
        int[] due = {1, 0, 1, 1, 1, 1, 1};
        for (int what = 0; what < due.length; what++) {
            Check.due("most " + what, t.most(what), due[what]);
        }
        HangmanMayor alike = Check.town(SIX + ";t;t");
        for (int what = 0; what < 7; what++) {
            Check.due("all alike", alike.most(what), 0);
        }
    }

    private static void promise33_awayOrNot() {
        HangmanMayor t = Check.town("p;pc9k9v9;p");
        t.martinmas(1);
        t.leaves(1);
        for (int what = 0; what < 5; what++) {
            Check.due("the one away", t.most(what), 1);
        }
        Check.due("next is in town", t.most(6), 0);
    }

    private static void promise33_asToldNotAsItSeems() {
        HangmanMayor t = Check.town("sc1k1v0;pc5k5;pc4k4");
        t.feigns(1, 0);
        t.feigns(1, 1);
        Check.due("bravest", t.most(3), 0);
        Check.due("kindest", t.most(4), 0);
        Check.due("favourite, as it seems", t.most(0), 1);
    }

    private static void promise33_thereIsNoTrouble() {
        HangmanMayor t = Check.town("p;p");
        Check.due("gravest", t.most(5), NONE);
        Check.due("open", t.most(9), 0);
        t.leaves(0);
        t.leaves(1);
        Check.due("open, nobody in town", t.most(9), 0);
    }

    private static void promise33_nobodyIsPickedNow() {
        HangmanMayor t = Check.town("ps1;ps1;tn0;tn0;tn0;tn0;tn0");
        Check.due("all are met", t.most(9), 0);
        t.walks(1);
        t.leaves(0);
        t.leaves(1);
        Check.due("next", t.most(6), NONE);
        Check.due("all are open", t.most(9), 31);
        Check.due("met this year, both", t.most(7), 3);
        Check.due("away, both", t.most(8), 3);
        Check.due("favourite all the same", t.most(0), 0);
    }

    private static void promise33_whoFeignsIsNotMet() {
        HangmanMayor t = Check.town(SIX);
        for (int p = 0; p < 6; p++) {
            t.feigns(p, 0);
            t.feigns(p, 1);
        }
        Check.due("met", t.most(7), 0);
        t.walks(1);
        Check.due("all six", t.most(7), 63);
        Check.due("nobody is away", t.most(8), 0);
    }

    private static void promise33_openAtTheEdge() {
        HangmanMayor t = Check.town("pc5k4v3;pv0;tw0n5;tw0n6;tw1n4;tw1n5;tw2n4");
        t.feigns(0, 0);
        t.feigns(0, 1);
        Check.due("6 of courage, 5 of kindness, 4 of vanity", t.most(9), 2 + 8 + 16);
    }

    private static void promise33_nobodyCountsToNeither() {
        HangmanMayor t = Check.town("ps1;ps9v9");
        t.walks(1);
        t.martinmas(2);
        t.leaves(0);
        t.leaves(1);
        t.martinmas(7);
        Check.due("by the rest", t.most(10), 1);
        Check.due("by him", t.most(11), 1);
        Check.due("chained: the lowest of two", t.most(1), 0);
    }

    // ---- 34: image

    private static void promise34_noTown() {
        Check.due("new", new HangmanMayor().image(), NONE);
        Check.due("laws alone", Scenes.lawsAlone().image(), NONE);
    }

    private static void promise34_theYear() {
        HangmanMayor t = Scenes.late();
        Check.due("998", t.image(), 998);
        t.martinmas(1);
        Check.due("999", t.image(), 999);
        Check.due("0", Check.town("p;p").image(), 0);
    }

    private static void promise34_insteadOfTheOneAhead() {
        HangmanMayor t = Check.town("sm0;p;p");
        t.give(1);
        t.image();
        t.give(1);
        t.image();
        t.give(1);
        t.back();
        Check.due("the later one", t.rule(3), 2);
        t.back();
        Check.due("the later one still", t.rule(3), 2);
    }

    private static void promise34_itIsNoAct() {
        HangmanMayor t = Check.town("sm0;p;p");
        t.give(1);
        t.image();
        Check.due("one act", t.count(12), 1);
        Check.due("undone", t.undo(), 0);
        t.back();
        Check.due("the image is not undone", t.rule(3), 1);
    }

    // ---- 35: back

    private static void promise35_noImageOfThisTown() {
        Check.due("new", new HangmanMayor().back(), NONE);
        HangmanMayor t = Check.town("p;p");
        Check.due("none yet", t.back(), NONE);
        t.image();
        Check.tell(t, "p;p");
        Check.due("of another town, told alike", t.back(), NONE);
        t.image();
        Check.due("of this one", t.back(), 0);
    }

    private static void promise35_aRefusedTextOrALawLeavesTheImage() {
        HangmanMayor t = Check.town("sm7;p;p");
        t.image();
        t.give(1);
        Check.feed(t, "p;");
        t.text(0);
        t.end(0);
        Check.rule(t, "y:1");
        Check.due("back", t.back(), 0);
        Check.due("coins", t.rule(3), 7);
        Check.due("the law holds still", t.count(4), 0);
    }

    private static void promise35_allThatIsKeptIsSoAgain() {
        HangmanMayor t = Scenes.busy();
        t.image();
        List<Integer> kept = View.of(t);
        t.walks(20);
        t.feigns(1, 0);
        t.leaves(0);
        t.leaves(3);
        t.martinmas(60);
        t.years(20, 5);
        t.give(9);
        t.walks(3);
        Check.due("the year", t.back(), 5);
        Check.due("no act", t.count(12), 0);
        List<Integer> now = View.of(t);
        kept.set(12, 0);
        Check.due("all but the acts", now.equals(kept), true);
    }

    private static void promise35_noActCanBeUndoneThen() {
        HangmanMayor t = Check.town("p;p");
        t.image();
        Check.times(50, () -> t.give(1));
        t.back();
        Check.due("none", t.undo(), NONE);
        Check.due("none", t.count(12), 0);
        t.give(2);
        Check.due("one", t.count(12), 1);
        Check.due("undone", t.undo(), 0);
        Check.due("coins", t.rule(3), 20);
        Check.due("no more", t.undo(), NONE);
    }

    private static void promise35_backAgainAndAgain() {
        HangmanMayor t = Check.town("sm7;p;p");
        t.martinmas(1);
        t.image();
        for (int i = 0; i < 3; i++) {
            t.martinmas(60);
            Check.due("back", t.back(), 1);
            Check.due("coins", t.rule(3), 10);
            Check.due("log", t.count(11), 1);
        }
    }

    private static void promise35_fateLawGivenAndStatusStay() {
        HangmanMayor t = Check.town("p;p");
        t.image();
        t.fate(6);
        t.given(3, 0, true);
        t.walks(77);
        Check.rule(t, "y:8");
        Check.feed(t, "abc");
        t.back();
        int[] due = {2, 0, 1, 3, 0, 0, 0, 0, 0, 6, 1, 0, 0};
        for (int what = 0; what < due.length; what++) {
            Check.due("count " + what, t.count(what), due[what]);
        }
        Check.due("status", t.status(1), 1);
    }

    private static void promise35_aFullLogIsSoAgain() {
        HangmanMayor t = Check.town("ps1v0;ps9v1");
        t.walks(1);
        t.martinmas(60);
        t.image();
        t.martinmas(60);
        Check.due("the first fell out", t.log(59, 0), 1);
        t.back();
        Check.due("and is back", t.log(59, 0), 0);
        Check.due("by him", t.log(59, 1), 0);
        Check.due("60", t.count(11), 60);
    }

    // ---- 36: count

    private static void promise36_othersAreHidden() {
        HangmanMayor t = Check.town("p;p");
        for (int what : new int[] {-1, 13, Integer.MIN_VALUE, Integer.MAX_VALUE}) {
            Check.due("count " + what, t.count(what), HIDDEN);
            Check.due("count " + what, new HangmanMayor().count(what), HIDDEN);
        }
    }

    private static void promise36_withoutATown() {
        HangmanMayor t = Scenes.lawsAlone();
        int[] due = {0, 0, 2, 5, 1, 0, 0, 0, 0, 0, 0, 0, 0};
        for (int what = 0; what < due.length; what++) {
            Check.due("count " + what, t.count(what), due[what]);
        }
    }

    private static void promise36_atTheirMost() {
        HangmanMayor t = Check.town(SIX + ";tg9;tg9;tg9;tg9;tg9");
        for (int i = 0; i < 4; i++) {
            Check.rule(t, "y:" + i);
        }
        t.give(50);
        for (int p = 0; p < 6; p++) {
            t.leaves(p);
        }
        Check.times(16, () -> t.martinmas(60));
        t.martinmas(39);
        Check.times(10, () -> t.given(3, 0, true));
        t.fate(9);
        t.walks(20);
        t.walks(10);
        t.walks(20);
        Check.feed(t, " ".repeat(240));
        int[] due = {6, 5, 4, 240, 3, 999, 20, 40, 9999, 9, 10, 60, 40};
        for (int what = 0; what < due.length; what++) {
            Check.due("count " + what, t.count(what), due[what]);
        }
    }
}
