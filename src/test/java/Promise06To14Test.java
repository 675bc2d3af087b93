/** The boundary cases of promises 6 to 14, sentence by sentence: what a town tells, laws, and acts by hand. */
public final class Promise06To14Test {
    private static final int NONE = HangmanMayor.NONE;
    private static final int MISSING = Check.MISSING;

    public static void main(String[] args) {
        Promises.run(Promise06To14Test.class);
    }

    private static void statuses(HangmanMayor t, int none, int bounds, int hindered, int dear, int late) {
        int[] due = {none, bounds, hindered, dear, late};
        for (int i = 0; i < due.length; i++) {
            Check.due("status " + i, t.status(i), due[i]);
        }
    }

    // ---- 6: rule

    private static void promise06_likingsAndCoinsAtTheirBounds() {
        HangmanMayor t = Check.town("sc0k9v0m0;p;p");
        int[] low = {0, 9, 0, 0};
        for (int i = 0; i < 4; i++) {
            Check.due("rule " + i, t.rule(i), low[i]);
        }
        t = Check.town("p;sc9k0v9m99;p");
        int[] high = {9, 0, 9, 99};
        for (int i = 0; i < 4; i++) {
            Check.due("rule " + i, t.rule(i), high[i]);
        }
    }

    private static void promise06_noSuchWhat() {
        HangmanMayor t = Check.town("p;p");
        for (int what : new int[] {-1, 4, Integer.MIN_VALUE, Integer.MAX_VALUE}) {
            Check.due("rule " + what, t.rule(what), NONE);
        }
    }

    private static void promise06_coinsAreThoseOfNow() {
        HangmanMayor t = Check.town("sm5;p;p");
        t.give(4);
        t.feigns(0, 0);
        t.leaves(1);
        Check.due("5 + 4 - 1 - 2", t.rule(3), 6);
        t.martinmas(1);
        Check.due("and 3", t.rule(3), 9);
    }

    // ---- 7: person

    private static void promise07_feigningSeemsTwoMoreNineAtMost() {
        HangmanMayor t = Check.town("pc0k9;pc3k8;pc4k1");
        int[][] courage = {{0, 2, 4, 6}, {3, 5, 7, 9}, {4, 6, 8, 9}};
        int[][] kindness = {{9, 9, 9, 9}, {8, 9, 9, 9}, {1, 3, 5, 7}};
        for (int times = 0; times <= 3; times++) {
            for (int p = 0; p < 3; p++) {
                Check.due("courage", Check.person(t, p, 0), courage[p][times]);
                Check.due("kindness", Check.person(t, p, 1), kindness[p][times]);
                t.feigns(p, 0);
                t.feigns(p, 1);
            }
        }
    }

    private static void promise07_vanityIsAsTold() {
        HangmanMayor t = Check.town("pv0;pv9");
        Check.times(3, () -> t.feigns(0, 0));
        Check.times(3, () -> t.feigns(0, 1));
        t.martinmas(3);
        Check.times(3, () -> t.feigns(1, 0));
        Check.due("0", Check.person(t, 0, 2), 0);
        Check.due("9, with the chain three times", Check.person(t, 1, 2), 9);
    }

    private static void promise07_doorMetAwayChainAtTheirBounds() {
        HangmanMayor t = Check.town("ps0;ps20v9");
        Check.due("door 0", Check.person(t, 0, 3), 0);
        Check.due("door 20", Check.person(t, 1, 3), 20);
        t.walks(20);
        Check.due("met", Check.person(t, 1, 4), 1);
        t.leaves(1);
        Check.due("away", Check.person(t, 1, 5), 1);
        t.leaves(1);
        Check.due("here", Check.person(t, 1, 5), 0);
        t.martinmas(60);
        t.martinmas(60);
        Check.due("chain, once of the first, 119 of the other", Check.person(t, 0, 6), 1);
        Check.due("99 at most", Check.person(t, 1, 6), 99);
        Check.due("not met", Check.person(t, 1, 4), 0);
    }

    private static void promise07_eachOfSixHasHisOwn() {
        HangmanMayor t = Check.town("sm99;pc0k0v9s1;pc0k0s2;pc0k0s3;pc0k0s4;pc0k0s5;pc0k0s20;tn9;tn8;tn7;tn6;tn5");
        for (int p = 0; p < 6; p++) {
            for (int i = 0; i < p % 4; i++) {
                t.feigns(p, 0);
            }
            for (int i = 0; i < 3 - p % 4; i++) {
                t.feigns(p, 1);
            }
            t.walks(6 - p);
        }
        t.leaves(5);
        int[] met = {2, 3, 3, 3, 3, 0};
        int[] due = new int[7];
        for (int p = 0; p < 6; p++) {
            due[0] = 2 * (p % 4);
            due[1] = 2 * (3 - p % 4);
            due[2] = p == 0 ? 9 : 2;
            due[3] = p == 5 ? 20 : p + 1;
            due[4] = met[p];
            due[5] = p == 5 ? 1 : 0;
            for (int what = 0; what < 7; what++) {
                Check.due("person " + p + ", " + what, Check.person(t, p, what), due[what]);
            }
        }
        for (int i = 0; i < 5; i++) {
            Check.due("asks", t.trouble(i, 1), 9 - i);
        }
        Check.due("met", t.most(7), 31);
    }

    private static void promise07_noSuchOnesAreThrown() {
        HangmanMayor t = Check.town("p;p;p;p;p;p");
        for (int p : new int[] {-1, 6, 7, 31, 32, Integer.MIN_VALUE, Integer.MAX_VALUE}) {
            for (int what = -1; what < 8; what++) {
                Check.due("person " + p, Check.person(t, p, what), MISSING);
            }
        }
        for (int what : new int[] {-1, 7, Integer.MIN_VALUE, Integer.MAX_VALUE}) {
            Check.due("what " + what, Check.person(t, 5, what), MISSING);
        }
        Check.due("the last one", Check.person(t, 5, 6), 0);
        Check.due("a third of two", Check.person(Check.town("p;p"), 2, 0), MISSING);
    }

    // ---- 8: trouble

    private static void promise08_noSuchOnes() {
        HangmanMayor t = Check.town("p;p;t;t;t;t;tw2n9g9");
        for (int i : new int[] {-1, 5, Integer.MIN_VALUE, Integer.MAX_VALUE}) {
            Check.due("trouble " + i, t.trouble(i, 0), NONE);
            Check.due("what " + i, t.trouble(0, i), NONE);
        }
        Check.due("what 3", t.trouble(4, 3), NONE);
        Check.due("the last one", t.trouble(4, 2), 9);
        Check.due("of none", Check.town("p;p").trouble(0, 0), NONE);
    }

    private static void promise08_whatItAsksIsHeldWithin0And9() {
        HangmanMayor t = Check.town("pv9c0;p;tw2n8g1;tw0n1g9;tw2n9;tn0");
        int[] asks = {8, 1, 9, 0};
        int[] later = {9, 0, 9, 1};
        int[] last = {9, 1, 9, 0};
        for (int i = 0; i < 4; i++) {
            Check.due("at first " + i, t.trouble(i, 1), asks[i]);
        }
        t.martinmas(1);
        for (int i = 0; i < 4; i++) {
            Check.due("later " + i, t.trouble(i, 1), later[i]);
        }
        t.martinmas(1);
        for (int i = 0; i < 4; i++) {
            Check.due("then " + i, t.trouble(i, 1), last[i]);
        }
        Check.due("the trait stays", t.trouble(0, 0), 2);
        Check.due("how grave stays", t.trouble(1, 2), 9);
    }

    // ---- 9: law

    private static void promise09_noSuchLaw() {
        HangmanMayor t = Check.town("pc1;p");
        Check.due("none is there", t.law(0), false);
        Check.due("none", t.law(NONE), true);
        Check.rule(t, "y:c+5");
        for (int law : new int[] {1, -2, 4, Integer.MIN_VALUE, Integer.MAX_VALUE}) {
            Check.due("law " + law, t.law(law), false);
            Check.due("which holds", t.count(4), 0);
            Check.due("it holds", t.appeal(0), 6);
        }
    }

    private static void promise09_noneHoldsAgain() {
        HangmanMayor t = Check.town("sc1k0v0;pc1;p");
        Check.rule(t, "y:50");
        Check.due("by the law", t.appeal(0), 50);
        Check.due("none", t.law(NONE), true);
        Check.due("none holds", t.count(4), NONE);
        Check.due("by likings", t.appeal(0), 1);
        Check.due("the law again", t.law(0), true);
        Check.due("again, as it is", t.law(0), true);
        Check.due("by the law", t.appeal(0), 50);
    }

    private static void promise09_withoutATownToo() {
        HangmanMayor t = new HangmanMayor();
        Check.feed(t, "y:33");
        t.text(1);
        Check.due("holds", t.law(0), true);
        Check.due("which", t.count(4), 0);
        Check.tell(t, "p;p");
        Check.due("in the town", t.appeal(1), 33);
    }

    // ---- 10: walks

    private static void promise10_doorsAre0To20() {
        HangmanMayor t = Check.town("ps20;ps0");
        for (int door : new int[] {-1, 21, 40, Integer.MIN_VALUE, Integer.MAX_VALUE}) {
            Check.due("door " + door, t.walks(door), NONE);
        }
        statuses(t, 0, 5, 0, 0, 0);
        Check.due("to 20", t.walks(20), 2);
        Check.due("there", t.count(6), 20);
        Check.due("to 0", t.walks(0), 2);
        Check.due("steps", t.count(7), 40);
    }

    private static void promise10_bothEndsAreOnTheWay() {
        HangmanMayor t = Check.town("ps4;ps5;ps8;ps9;ps3");
        t.walks(5);
        Check.due("from 5 to 8", t.walks(8), 2);
        int[] met = {1, 2, 1, 0, 1};
        for (int p = 0; p < 5; p++) {
            Check.due("met " + p, Check.person(t, p, 4), met[p]);
        }
        Check.due("back from 8 to 4", t.walks(4), 3);
        int[] later = {2, 3, 2, 0, 1};
        for (int p = 0; p < 5; p++) {
            Check.due("met " + p, Check.person(t, p, 4), later[p]);
        }
        Check.due("nobody on the way", Check.town("ps2;ps2").walks(1), 0);
    }

    private static void promise10_heIsAtDoor0AtFirst() {
        HangmanMayor t = Check.town("ps0;ps1");
        Check.due("he is there", t.walks(0), NONE);
        statuses(t, 0, 0, 1, 0, 0);
        Check.due("who lives there is met as he goes", t.walks(1), 2);
    }

    private static void promise10_fortyStepsAtMost() {
        HangmanMayor t = Check.town("ps20;ps10");
        t.walks(20);
        t.walks(1);
        Check.due("39", t.count(7), 39);
        Check.due("41", t.walks(3), NONE);
        Check.due("59", t.walks(20), NONE);
        Check.due("39 still", t.count(7), 39);
        Check.due("at 1 still", t.count(6), 1);
        Check.due("40", t.walks(0), 0);
        Check.due("41", t.walks(1), NONE);
        statuses(t, 0, 0, 0, 3, 0);
        t.martinmas(1);
        Check.due("0 in the next year", t.count(7), 0);
        Check.due("to 20", t.walks(20), 2);
    }

    private static void promise10_metNineTimesAtMostAndStillCounted() {
        HangmanMayor t = Check.town("ps0;ps1;ps20");
        for (int i = 1; i <= 12; i++) {
            Check.due("two are met", t.walks(i % 2), 2);
            Check.due("how often", Check.person(t, 0, 4), Math.min(i, 9));
            Check.due("how often", Check.person(t, 1, 4), Math.min(i, 9));
        }
        Check.due("not the third", Check.person(t, 2, 4), 0);
    }

    private static void promise10_whoIsAwayIsNotMet() {
        HangmanMayor t = Check.town("ps1;ps1");
        t.leaves(0);
        Check.due("one", t.walks(2), 1);
        Check.due("not met", Check.person(t, 0, 4), 0);
        t.leaves(0);
        Check.due("both", t.walks(0), 2);
        Check.due("once", Check.person(t, 0, 4), 1);
    }

    private static void promise10_ofSeveralReasonsTheFirst() {
        HangmanMayor t = new HangmanMayor();
        t.walks(99);
        statuses(t, 1, 0, 0, 0, 0);
        t.walks(0);
        statuses(t, 2, 0, 0, 0, 0);
        Check.tell(t, "p;p");
        t.walks(20);
        t.walks(0);
        t.walks(21);
        statuses(t, 2, 1, 0, 0, 0);
        t.walks(0);
        statuses(t, 2, 1, 1, 0, 0);
        t.walks(1);
        statuses(t, 2, 1, 1, 1, 0);
    }

    private static void promise10_coinsAreNotAsked() {
        HangmanMayor t = Check.town("sm0;ps1;p");
        Check.due("met", t.walks(1), 2);
        Check.due("coins", t.rule(3), 0);
        Check.due("an act", t.count(12), 1);
    }

    // ---- 11: feigns

    private static void promise11_threeTimesAYearEach() {
        HangmanMayor t = Check.town("pc1k2;pc1k2");
        for (int trait = 0; trait < 2; trait++) {
            Check.due("once", t.feigns(0, trait), 3 + trait);
            Check.due("twice", t.feigns(0, trait), 5 + trait);
            Check.due("thrice", t.feigns(0, trait), 7 + trait);
            Check.due("a fourth time", t.feigns(0, trait), NONE);
        }
        Check.due("another one", t.feigns(1, 0), 3);
        statuses(t, 0, 0, 2, 0, 0);
        t.martinmas(1);
        Check.due("a new year", t.feigns(0, 0), 3);
        Check.due("a new year", t.feigns(0, 1), 4);
    }

    private static void promise11_nineAtMostAndStillACoin() {
        HangmanMayor t = Check.town("sm3;pc9k8;p");
        Check.due("9", t.feigns(0, 0), 9);
        Check.due("9", t.feigns(0, 1), 9);
        Check.due("9", t.feigns(0, 1), 9);
        Check.due("three coins", t.rule(3), 0);
        Check.due("no coin", t.feigns(0, 0), NONE);
        statuses(t, 0, 0, 0, 1, 0);
    }

    private static void promise11_theLastCoin() {
        HangmanMayor t = Check.town("sm1;p;p");
        Check.due("for it", t.feigns(1, 0), 6);
        Check.due("none is left", t.rule(3), 0);
        Check.due("too few", t.feigns(0, 0), NONE);
        statuses(t, 0, 0, 0, 1, 0);
    }

    private static void promise11_courageAndKindnessAlone() {
        HangmanMayor t = Check.town("p;p");
        for (int trait : new int[] {-1, 2, 3, Integer.MIN_VALUE, Integer.MAX_VALUE}) {
            Check.due("trait " + trait, t.feigns(0, trait), NONE);
        }
        statuses(t, 0, 5, 0, 0, 0);
        for (int p : new int[] {-1, 2, 32, Integer.MIN_VALUE, Integer.MAX_VALUE}) {
            Check.due("person " + p, t.feigns(p, 0), NONE);
        }
        statuses(t, 5, 5, 0, 0, 0);
    }

    private static void promise11_notWhoIsAway() {
        HangmanMayor t = Check.town("p;p");
        t.leaves(0);
        Check.due("away", t.feigns(0, 0), NONE);
        statuses(t, 0, 0, 1, 0, 0);
        t.leaves(0);
        Check.due("back", t.feigns(0, 0), 6);
    }

    private static void promise11_ofSeveralReasonsTheFirst() {
        HangmanMayor t = Check.town("sm2;p;p");
        t.leaves(0);
        t.feigns(2, 2);
        statuses(t, 1, 0, 0, 0, 0);
        t.feigns(0, 2);
        statuses(t, 1, 1, 0, 0, 0);
        t.feigns(0, 0);
        statuses(t, 1, 1, 1, 0, 0);
        t.feigns(1, 0);
        statuses(t, 1, 1, 1, 1, 0);
        HangmanMayor thrice = Check.town("sm3;p;p");
        Check.times(4, () -> thrice.feigns(0, 0));
        statuses(thrice, 0, 0, 1, 0, 0);
    }

    // ---- 12: leaves

    private static void promise12_twoCoinsToGoAndToComeBack() {
        HangmanMayor t = Check.town("sm4;p;p");
        Check.due("away", t.leaves(1), 1);
        Check.due("coins", t.rule(3), 2);
        Check.due("here", t.leaves(1), 0);
        Check.due("coins", t.rule(3), 0);
        Check.due("too few", t.leaves(1), NONE);
        t.give(1);
        Check.due("too few", t.leaves(1), NONE);
        statuses(t, 0, 0, 0, 2, 0);
        t.give(1);
        Check.due("enough", t.leaves(1), 1);
    }

    private static void promise12_noSuchPerson() {
        HangmanMayor t = Check.town("sm0;p;p");
        for (int p : new int[] {-1, 2, 31, 32, 33, Integer.MIN_VALUE, Integer.MAX_VALUE}) {
            Check.due("person " + p, t.leaves(p), NONE);
        }
        statuses(t, 7, 0, 0, 0, 0);
        Check.due("nobody went", t.most(8), 0);
    }

    private static void promise12_allMayBeAway() {
        HangmanMayor t = Check.town("sm99;p;p;p;p;p;p");
        for (int p = 0; p < 6; p++) {
            Check.due("goes", t.leaves(p), 1);
        }
        Check.due("all", t.most(8), 63);
        Check.due("nobody", t.most(6), NONE);
    }

    private static void promise12_whoIsAwayStaysAwayBehindMartinmas() {
        HangmanMayor t = Check.town("p;p");
        t.leaves(0);
        t.martinmas(2);
        Check.due("away", Check.person(t, 0, 5), 1);
        Check.due("comes back", t.leaves(0), 0);
    }

    // ---- 13: give

    private static void promise13_from1To50() {
        HangmanMayor t = Check.town("sm0;p;p");
        for (int n : new int[] {0, -1, 51, Integer.MIN_VALUE, Integer.MAX_VALUE}) {
            Check.due("give " + n, t.give(n), NONE);
        }
        statuses(t, 0, 5, 0, 0, 0);
        Check.due("coins", t.rule(3), 0);
        Check.due("1", t.give(1), 1);
        Check.due("50", t.give(50), 51);
    }

    private static void promise13_999CoinsAtMost() {
        HangmanMayor t = Check.town("sm99;p;p");
        Check.times(17, () -> t.give(50));
        Check.due("949", t.rule(3), 949);
        Check.due("999", t.give(50), 999);
        Check.due("1000", t.give(1), NONE);
        Check.due("1049", t.give(50), NONE);
        statuses(t, 0, 2, 0, 0, 0);
        t.feigns(0, 0);
        Check.due("1000", t.give(2), NONE);
        Check.due("999", t.give(1), 999);
    }

    private static void promise13_withoutATown() {
        HangmanMayor t = new HangmanMayor();
        t.give(1);
        t.give(51);
        statuses(t, 2, 0, 0, 0, 0);
    }

    // ---- 14: martinmas

    private static void promise14_from1To60Times() {
        HangmanMayor t = Check.town("p;p");
        for (int n : new int[] {0, -1, 61, Integer.MIN_VALUE, Integer.MAX_VALUE}) {
            Check.due("n " + n, t.martinmas(n), NONE);
        }
        statuses(t, 0, 5, 0, 0, 0);
        Check.due("once", t.martinmas(1), 1);
        Check.due("60 times", t.martinmas(60), 61);
    }

    private static void promise14_year999IsTheLast() {
        HangmanMayor t = Check.town("p;p");
        Check.times(16, () -> t.martinmas(60));
        Check.due("1000", t.martinmas(40), NONE);
        Check.due("960 still", t.count(5), 960);
        Check.due("none of them was", t.most(10), 960);
        Check.due("999", t.martinmas(39), 999);
        Check.due("none ends", t.martinmas(1), NONE);
        statuses(t, 0, 0, 0, 0, 2);
        Check.due("bounds are looked at first", t.martinmas(61), NONE);
        Check.due("bounds are looked at first", t.martinmas(0), NONE);
        statuses(t, 0, 2, 0, 0, 2);
        Check.due("acts go on", t.walks(3), 2);
        Check.due("gifts too", t.give(1) == NONE, true);
        Check.due("coins are full", t.rule(3), 999);
    }

    private static void promise14_eachIsAnAct() {
        HangmanMayor t = Check.town("p;p");
        t.martinmas(3);
        Check.due("acts", t.count(12), 3);
        Check.due("undone", t.undo(), 2);
        Check.due("year", t.count(5), 2);
        t.martinmas(60);
        Check.due("forty", t.count(12), 40);
    }

    private static void promise14_mostAppealOfThoseMetTheLowest() {
        HangmanMayor t = Check.town("sc1k0v0;pc9s9v9;pc5s1;pc7s2;pc7s3;pc9s2");
        t.leaves(4);
        t.walks(3);
        Check.due("next", t.most(6), 2);
        t.martinmas(1);
        Check.due("the lower of two with 7", t.log(0, 0), 2);
        Check.due("by him", t.log(0, 1), 0);
        Check.due("counted", t.most(11), 1);
        Check.due("not by the rest", t.most(10), 0);
    }

    private static void promise14_negativeAppealIsPickedToo() {
        HangmanMayor t = Check.town("pv9s1;pv0s9;pv9s1");
        Check.rule(t, "y:0-99");
        t.walks(1);
        t.martinmas(1);
        Check.due("met alone", t.log(0, 0), 0);
        Check.due("by him", t.log(0, 1), 0);
    }

    private static void promise14_nobodyMetTheVainestTheLowest() {
        HangmanMayor t = Check.town("pc9v3;pv8;pv9s5;pv8");
        t.leaves(2);
        t.martinmas(1);
        Check.due("the vainest in town", t.log(0, 0), 1);
        Check.due("by the rest", t.log(0, 1), 1);
        Check.due("counted", t.most(10), 1);
        Check.due("not by him", t.most(11), 0);
        Check.due("chain", Check.person(t, 1, 6), 1);
        HangmanMayor alike = Check.town("pv0;pv0");
        alike.martinmas(1);
        Check.due("of several the lowest", alike.log(0, 0), 0);
    }

    private static void promise14_metButAwayIsNotMetInTown() {
        HangmanMayor t = Check.town("pc9s1;pv9s9;pv3s9");
        t.walks(1);
        t.leaves(0);
        t.martinmas(1);
        Check.due("the rest chose", t.log(0, 0), 1);
        Check.due("by the rest", t.log(0, 1), 1);
    }

    private static void promise14_nobodyInTown() {
        HangmanMayor t = Check.town("ps1;ps2;tn0g2;tn5g9");
        t.walks(2);
        t.leaves(0);
        t.leaves(1);
        Check.due("a year", t.martinmas(1), 1);
        Check.due("nobody", t.log(0, 0), NONE);
        Check.due("not by the rest", t.log(0, 1), 0);
        Check.due("none is met, not even what asks for 0", t.log(0, 2), 0);
        Check.due("counts to neither", t.most(10), 0);
        Check.due("counts to neither", t.most(11), 0);
        Check.due("harm", t.count(8), 11);
        Check.due("0 at least", t.trouble(0, 1), 0);
        Check.due("one less", t.trouble(1, 1), 4);
        Check.due("no chain", Check.person(t, 0, 6) + Check.person(t, 1, 6), 0);
    }

    private static void promise14_chain99AtMost() {
        HangmanMayor t = Check.town("p;p");
        t.martinmas(60);
        t.martinmas(38);
        Check.due("98", Check.person(t, 0, 6), 98);
        t.martinmas(1);
        Check.due("99", Check.person(t, 0, 6), 99);
        t.martinmas(1);
        Check.due("99 still", Check.person(t, 0, 6), 99);
        Check.due("he was chosen all the same", t.most(10), 100);
        Check.due("it is logged", t.log(0, 0), 0);
        t.undo();
        t.undo();
        Check.due("98 again", Check.person(t, 0, 6), 98);
    }

    private static void promise14_picksAreCountedBeyond99() {
        HangmanMayor t = Check.town("ps1;ps2");
        for (int i = 0; i < 120; i++) {
            t.walks(1);
            t.martinmas(1);
        }
        Check.due("by him", t.most(11), 120);
        Check.due("by the rest", t.most(10), 0);
        Check.due("chain", Check.person(t, 0, 6), 99);
    }

    private static void promise14_asMuchAsItAsksIsMet() {
        HangmanMayor t = Check.town("pc5k5v5;pv0;tw0n4;tw0n5;tw0n6;tw1n5;tw2n6");
        t.martinmas(1);
        Check.due("4, 5 of courage, 5 of kindness", t.log(0, 2), 1 + 2 + 8);
        int[] asks = {5, 6, 5, 6, 5};
        for (int i = 0; i < 5; i++) {
            Check.due("asks " + i, t.trouble(i, 1), asks[i]);
        }
        Check.due("harm of two", t.count(8), 6);
    }

    private static void promise14_hisTraitAsToldNotAsItSeems() {
        HangmanMayor t = Check.town("pc4k4v9;pv0;tw0n5g1;tw1n5g2");
        t.feigns(0, 0);
        t.feigns(0, 1);
        Check.due("open", t.most(9), 3);
        t.martinmas(1);
        Check.due("none is met", t.log(0, 2), 0);
        Check.due("harm", t.count(8), 3);
    }

    private static void promise14_harm9999AtMost() {
        HangmanMayor t = Check.town("p;p;tg9;tg9;tg9;tg6");
        t.leaves(0);
        t.leaves(1);
        Check.times(5, () -> t.martinmas(60));
        t.martinmas(2);
        Check.due("302 times 33", t.count(8), 9966);
        t.martinmas(1);
        Check.due("9999", t.count(8), 9999);
        t.martinmas(1);
        Check.due("no more", t.count(8), 9999);
        HangmanMayor more = Check.town("p;p;tg9;tg9;tg9;tg9;tg9");
        more.leaves(0);
        more.leaves(1);
        Check.times(3, () -> more.martinmas(60));
        more.martinmas(42);
        Check.due("222 times 45", more.count(8), 9990);
        more.martinmas(1);
        Check.due("held", more.count(8), 9999);
    }

    private static void promise14_threeCoins999AtMost() {
        int[] before = {995, 996, 997, 998, 999};
        int[] behind = {998, 999, 999, 999, 999};
        for (int i = 0; i < before.length; i++) {
            HangmanMayor t = Check.town("sm99;p;p");
            Check.times(17, () -> t.give(50));
            t.give(before[i] - 949);
            t.martinmas(1);
            Check.due("coins", t.rule(3), behind[i]);
        }
    }

    private static void promise14_theNextYearBeginsAnew() {
        HangmanMayor t = Check.town("ps1;ps3");
        t.walks(4);
        t.feigns(0, 0);
        t.feigns(1, 1);
        t.martinmas(1);
        Check.due("door", t.count(6), 0);
        Check.due("steps", t.count(7), 0);
        Check.due("met", t.most(7), 0);
        Check.due("courage", Check.person(t, 0, 0), 4);
        Check.due("kindness", Check.person(t, 1, 1), 4);
        Check.due("how often met", Check.person(t, 1, 4), 0);
        Check.due("coins", t.rule(3), 21);
    }

    private static void promise14_withoutATown() {
        HangmanMayor t = new HangmanMayor();
        Check.due("1", t.martinmas(1), NONE);
        Check.due("0", t.martinmas(0), NONE);
        Check.due("61", t.martinmas(61), NONE);
        statuses(t, 3, 0, 0, 0, 0);
    }
}
