/** The boundary cases of promises 20 to 27, sentence by sentence: appeal, lead, feigning, tour, given, likings, show, work. */
public final class Promise20To27Test {
    private static final int NONE = HangmanMayor.NONE;
    private static final int HIDDEN = HangmanMayor.HIDDEN;
    private static final int[] NO_PERSONS = {-1, 6, 7, 31, 32, 33, Integer.MIN_VALUE, Integer.MAX_VALUE};

    private static final String SIX = "p;p;p;p;p;p";

    public static void main(String[] args) {
        Promises.run(Promise20To27Test.class);
    }

    /** The appeal, by a law, of one with courage 4, kindness 5, vanity 2. */
    private static void worth(String law, int due) {
        HangmanMayor t = Check.town("pc4k5v2;p");
        Check.rule(t, law);
        Check.due(law, t.appeal(0), due);
    }

    // ---- 20: appeal

    private static void promise20_noSuchPerson() {
        HangmanMayor t = Check.town(SIX);
        for (int p : NO_PERSONS) {
            Check.due("person " + p, t.appeal(p), HIDDEN);
        }
        Check.due("the last one", t.appeal(5), 20);
        Check.due("a third of two", Check.town("p;p").appeal(2), HIDDEN);
    }

    private static void promise20_heldWithin99WithoutALaw() {
        HangmanMayor t = Check.town("sc9k9v9;pc9k9v0;pc9k2v0;pc9k3v1;pc9k4v2;pc0k0v9;pc0k0v0");
        int[] due = {99, 99, 99, 99, -81, 0};
        for (int p = 0; p < 6; p++) {
            Check.due("appeal " + p, t.appeal(p), due[p]);
        }
        HangmanMayor edge = Check.town("sc9k6v1;pc9k3v0;pc9k4v5;pc9k4v6;pc9k3v1");
        Check.due("81 + 18", edge.appeal(0), 99);
        Check.due("81 + 24 - 5 is 100", edge.appeal(1), 99);
        Check.due("81 + 24 - 6", edge.appeal(2), 99);
        Check.due("81 + 18 - 1", edge.appeal(3), 98);
    }

    private static void promise20_heldWithin99ByALaw() {
        worth("y:98", 98);
        worth("y:99", 99);
        worth("y:100", 99);
        worth("y:9999", 99);
        worth("y:0-98", -98);
        worth("y:0-99", -99);
        worth("y:0-100", -99);
        worth("y:0-9999", -99);
        worth("y:9999*9999", 99);
        worth("y:0-9999*9999", -99);
    }

    private static void promise20_numbersAreHeldWithinAMillionBehindEachSign() {
        worth("y:1000*1000/9999", 100 - 1);
        worth("y:1000*1000/9999-50", 50);
        worth("y:9999*9999/9999-50", 50);
        worth("y:[0-9999]*9999/9999+50", -50);
        worth("y:1000*1000-999*1000-950", 50);
        worth("y:0-1000*1000+999*1000+950", -50);
        worth("y:1000*1000+7-1000*1000", 0);
        worth("y:1000*1000-1+7-1000*1000", 0);
        worth("y:1000*1000-8+7-1000*1000", -1);
        worth("y:0-1000*1000-7+1000*1000", 0);
        worth("y:0-1000*1000+7-7+1000*1000", 0);
        worth("y:[0-9999]*[0-9999]/9999-50", 50);
        worth("y:9999*9999=1000*1000?7", 7);
        worth("y:9999*9999>1000*1000?7;y:8", 8);
        worth("y:0-9999*9999<0-1000*1000?7;y:8", 8);
        worth("y:9999*9999*9999*9999/9999-40", 60);
    }

    private static void promise20_divisionCutsTowards0AndBy0Gives0() {
        worth("y:7/2", 3);
        worth("y:[0-7]/2", -3);
        worth("y:7/[0-2]", -3);
        worth("y:[0-7]/[0-2]", 3);
        worth("y:1/2", 0);
        worth("y:[0-1]/2", 0);
        worth("y:5/0", 0);
        worth("y:[0-5]/0", 0);
        worth("y:0/0", 0);
        worth("y:9+5/[c-4]", 9);
        worth("y:5/0*3+1", 1);
        worth("y:5/0=0?2", 2);
    }

    private static void promise20_signsBindAsToldFromTheLeft() {
        worth("y:10-3-2", 5);
        worth("y:10-3+2", 9);
        worth("y:2+3*4", 14);
        worth("y:[2+3]*4", 20);
        worth("y:7/2*2", 6);
        worth("y:2*7/2", 7);
        worth("y:96/8/3", 4);
        worth("y:1=1|1=2&1=2?5;y:6", 5);
        worth("y:(1=1|1=2)&1=2?5;y:6", 6);
        worth("y:1=2&1=2|1=1?5;y:6", 5);
        worth("y:!1=2&1=1?5;y:6", 5);
        worth("y:!(1=2|1=1)?5;y:6", 6);
        worth("y:!1=1|1=1?5;y:6", 5);
        worth("y:!!1=1?5;y:6", 5);
        worth("y:!!!1=1?5;y:6", 6);
        worth("y:!!!!!!1=1?5;y:6", 5);
        worth("y:1=1&(1=2)?5;y:6", 6);
        worth("y:1=1&(1=2|1=2)?5;y:6", 6);
        worth("y:1=2|(1=1&1=1)?5;y:6", 5);
        worth("y:(1=2)|(1=2)|(1=1)?5;y:6", 5);
        worth("y:!1<2?5;y:6", 6);
        worth("y:!2>1?5;y:6", 6);
        worth("y:1<2&1=1&2>1?5;y:6", 5);
    }

    private static void promise20_theFirstClauseThatHoldsOr0() {
        worth("y:1=1?5;y:1=1?6", 5);
        worth("y:1=2?5;y:1=1?6", 6);
        worth("y:7;y:1=1?6", 7);
        worth("y:1=2?5", 0);
        worth("y:1=2?5;y:2<1?6;y:1>1?7", 0);
        worth("y:1=2?5;y:6;y:7", 6);
        worth("y:1=2?5;".repeat(29) + "y:66", 66);
    }

    private static void promise20_comparingAtTheEdge() {
        worth("y:c=4?1", 1);
        worth("y:c<4?1", 0);
        worth("y:c>4?1", 0);
        worth("y:c<5?1", 1);
        worth("y:c>3?1", 1);
        worth("y:c=k?1", 0);
        worth("y:0-1<0?1", 1);
    }

    private static void promise20_theLettersAtTheirBounds() {
        HangmanMayor t = Check.town("sm99;pc9k0v9s1;pc0k9v0s9");
        for (String law : new String[] {"y:c", "y:k", "y:v", "y:m"}) {
            Check.rule(t, law);
        }
        Check.times(10, () -> t.walks(1 - t.count(6)));
        int[][] due = {{9, 0}, {0, 9}, {9, 0}, {9, 0}};
        for (int law = 0; law < 4; law++) {
            t.law(law);
            Check.due("of the first", t.appeal(0), due[law][0]);
            Check.due("of the second", t.appeal(1), due[law][1]);
        }
        t.feigns(0, 0);
        t.feigns(1, 0);
        t.feigns(1, 1);
        t.law(0);
        Check.due("9 at most", t.appeal(0), 9);
        Check.due("as it seems", t.appeal(1), 2);
        t.law(1);
        Check.due("9 at most", t.appeal(1), 9);
    }

    private static void promise20_theYearIsModulo100() {
        HangmanMayor t = Check.town("p;p");
        Check.rule(t, "y:y");
        Check.due("0", t.appeal(0), 0);
        t.martinmas(60);
        t.martinmas(39);
        Check.due("99", t.appeal(0), 99);
        t.martinmas(1);
        Check.due("100", t.appeal(0), 0);
        t.martinmas(1);
        Check.due("101", t.appeal(0), 1);
        Check.times(14, () -> t.martinmas(60));
        t.martinmas(58);
        Check.due("999", t.appeal(0), 99);
    }

    private static void promise20_theChainIs99AtMost() {
        HangmanMayor t = Check.town("p;p");
        Check.rule(t, "y:h-50");
        Check.due("0", t.appeal(0), -50);
        t.martinmas(60);
        t.martinmas(60);
        Check.due("99", t.appeal(0), 49);
        Check.due("never", t.appeal(1), -50);
    }

    private static void promise20_awayOrNotMetOrNot() {
        HangmanMayor t = Check.town("sc1k0v0;pc7s5;p");
        Check.due("not met", t.appeal(0), 7);
        t.walks(5);
        Check.due("met", t.appeal(0), 7);
        t.leaves(0);
        Check.due("away", t.appeal(0), 7);
    }

    // ---- 21: lead

    private static void promise21_noSuchPersonAwayNotMet() {
        HangmanMayor t = Check.town("ps1;ps1;ps9;p;p;p");
        for (int p : NO_PERSONS) {
            Check.due("person " + p, t.lead(p), HIDDEN);
        }
        Check.due("not met", t.lead(0), HIDDEN);
        t.walks(1);
        Check.due("met", t.lead(0), 0);
        Check.due("not met", t.lead(2), HIDDEN);
        t.leaves(0);
        Check.due("away", t.lead(0), HIDDEN);
    }

    private static void promise21_thereIsNoOtherOne() {
        HangmanMayor t = Check.town("sc0k0v9;pv9s1;ps1;ps9");
        t.leaves(1);
        t.walks(1);
        Check.due("alone, with an appeal of -81", t.lead(0), 99);
        t.leaves(1);
        Check.due("the other one was not met", t.lead(0), 99);
        t.walks(0);
        t.walks(1);
        Check.due("the other one was met", t.lead(0), -63);
        t.leaves(1);
        Check.due("met, but away", t.lead(0), 99);
    }

    private static void promise21_fromMinus198To198() {
        HangmanMayor t = Check.town("pc0s1;pc9s1;pc9s9");
        Check.rule(t, "y:c=9?1000;y:0-1000");
        t.walks(1);
        Check.due("the least", t.lead(0), -198);
        Check.due("the most", t.lead(1), 198);
        t.walks(9);
        Check.due("alike", t.lead(1), 0);
        Check.due("alike", t.lead(2), 0);
    }

    // ---- 22: feigning

    private static void promise22_noSuchPersonAway() {
        HangmanMayor t = Check.town(SIX);
        for (int p : NO_PERSONS) {
            Check.due("person " + p, t.feigning(p), NONE);
        }
        Check.due("the last one, alone", t.feigning(5), 0);
        t.leaves(5);
        Check.due("away", t.feigning(5), NONE);
    }

    private static void promise22_noneIsNeeded() {
        HangmanMayor t = Check.town("ps1;pc5s1;pc0k0v9s9");
        Check.due("nobody else is met", t.feigning(2), 0);
        t.walks(1);
        Check.due("he is ahead", t.feigning(1), 0);
        HangmanMayor alike = Check.town("ps1;ps1");
        alike.walks(1);
        Check.due("of two alike the lower", alike.feigning(0), 0);
        Check.due("the higher must be ahead", alike.feigning(1), 1);
    }

    private static void promise22_ofAsFewTheLeast() {
        HangmanMayor t = Check.town("sc3k3v0;pc4k4s1;pc4k5s1");
        t.walks(1);
        Check.due("01 and 10 do", t.feigning(0), 1);
        t = Check.town("sc3k0v0;pc4k4s1;pc5k4s1");
        t.walks(1);
        Check.due("just 10 does", t.feigning(0), 10);
        t = Check.town("sc1k1v0;pc0k0s1;pc4k0s1");
        t.walks(1);
        Check.due("02, 11, 20 do", t.feigning(0), 2);
        t = Check.town("sc1k1v0;pc0k9s1;pc4k9s1");
        t.walks(1);
        Check.due("just 20 does", t.feigning(0), 20);
        t = Check.town("sc1k1v0;pc0k8s1;pc3k8s1");
        t.walks(1);
        Check.due("11 and 20 do", t.feigning(0), 11);
    }

    private static void promise22_fewTogetherComeAheadOfALowerNumber() {
        HangmanMayor t = Check.town("sc2k1v0;pc0k0s1;pc4k0s1");
        t.walks(1);
        Check.due("20 does, ahead of 12; 11 does not", t.feigning(0), 20);
        t = Check.town("sc9k1v0;pc0k0s1;pc2k0s1");
        t.walks(1);
        Check.due("10 does, 03 does not", t.feigning(0), 10);
        t = Check.town("sc3k1v0;pc0k0s1;pc2k0s1");
        t.walks(1);
        Check.due("10 does, ahead of 03", t.feigning(0), 10);
    }

    private static void promise22_threeTimesAtMostWithThoseHeDid() {
        HangmanMayor six = Check.town("sc1k0v0m99;pc0s1;pc6s1");
        six.walks(1);
        Check.due("three", six.feigning(0), 30);
        six.feigns(0, 0);
        Check.due("two more", six.feigning(0), 20);
        six.feigns(0, 0);
        Check.due("one more", six.feigning(0), 10);
        six.feigns(0, 0);
        Check.due("no more", six.feigning(0), 0);
        HangmanMayor seven = Check.town("sc1k0v0m99;pc0s1;pc7s1");
        seven.walks(1);
        Check.due("a fourth would be needed", seven.feigning(0), NONE);
        Check.times(3, () -> seven.feigns(0, 0));
        Check.due("a fourth would be needed", seven.feigning(0), NONE);
        HangmanMayor kind = Check.town("sc0k1v0m99;pk0s1;pk6s1");
        kind.walks(1);
        Check.due("three", kind.feigning(0), 3);
        Check.times(2, () -> kind.feigns(0, 1));
        Check.due("one more", kind.feigning(0), 1);
        HangmanMayor kinder = Check.town("sc0k1v0m99;pk0s1;pk7s1");
        kinder.walks(1);
        Check.times(3, () -> kinder.feigns(0, 1));
        Check.due("a fourth would be needed", kinder.feigning(0), NONE);
    }

    private static void promise22_sixInAll() {
        HangmanMayor t = Check.town("sc1k1v0;pc0k0s1;pc6k6s1");
        t.walks(1);
        Check.due("all six", t.feigning(0), 33);
        Check.due("the other one does not have to", t.feigning(1), 0);
        HangmanMayor higher = Check.town("sc1k1v0;pc6k6s1;pc0k0s1");
        higher.walks(1);
        Check.due("alike is too little for the higher", higher.feigning(1), NONE);
    }

    private static void promise22_nineAtMostAsItSeems() {
        HangmanMayor t = Check.town("sc1k0v0;pc9s1;pc8s1");
        t.walks(1);
        Check.due("9 is not ahead of 9", t.feigning(1), NONE);
        Check.due("by none", Check.town("p;p").feigning(1), 0);
    }

    private static void promise22_metOnceMoreNineAtMost() {
        HangmanMayor t = Check.town("ps1;ps1");
        Check.rule(t, "y:m");
        Check.due("not met, he would be", t.feigning(1), 0);
        t.walks(1);
        Check.due("once and once more", t.feigning(1), 0);
        Check.times(8, () -> t.walks(1 - t.count(6)));
        Check.due("nine times", Check.person(t, 1, 4), 9);
        Check.due("not ten times", t.feigning(1), NONE);
        Check.due("alike, the lower", t.feigning(0), 0);
    }

    private static void promise22_othersAreAsTheyAre() {
        HangmanMayor t = Check.town("ps1;pc9k9v0s9;pc9k9v0s1");
        t.leaves(2);
        t.walks(1);
        Check.due("who is not met or away is none of them", t.feigning(0), 0);
        t.walks(9);
        Check.due("who is met is", t.feigning(0), NONE);
    }

    private static void promise22_coinsDoNotMatter() {
        HangmanMayor t = Check.town("sm0;ps1;pc5s1");
        t.walks(1);
        Check.due("for nothing", t.feigning(0), 1);
    }

    // ---- 23: tour

    private static void tours(HangmanMayor t, int persons, int steps, int door) {
        Check.due("tour " + persons, t.tour(persons, 0), steps);
        Check.due("tour " + persons + " ends", t.tour(persons, 1), door);
    }

    private static void promise23_noSuchPersonsAndNoSuchWhat() {
        HangmanMayor t = Check.town("ps1;ps2");
        for (int persons : new int[] {0, 4, 5, 7, 32, 64, -1, -2, Integer.MIN_VALUE, Integer.MAX_VALUE}) {
            Check.due("persons " + persons, t.tour(persons, 0), NONE);
            Check.due("persons " + persons, t.tour(persons, 1), NONE);
        }
        for (int what : new int[] {-1, 2, Integer.MIN_VALUE, Integer.MAX_VALUE}) {
            Check.due("what " + what, t.tour(3, what), NONE);
        }
        HangmanMayor six = Check.town("ps1;ps2;ps3;ps4;ps5;ps6");
        tours(six, 63, 6, 6);
        Check.due("a seventh", six.tour(64, 0), NONE);
        Check.due("with a seventh", six.tour(127, 0), NONE);
    }

    private static void promise23_oneOfThemAway() {
        HangmanMayor t = Check.town("ps1;ps2;ps9");
        t.leaves(1);
        Check.due("he alone", t.tour(2, 0), NONE);
        Check.due("he among them", t.tour(7, 1), NONE);
        tours(t, 5, 9, 9);
        t.leaves(1);
        tours(t, 7, 9, 9);
    }

    private static void promise23_allAtHisDoor() {
        HangmanMayor t = Check.town("ps0;ps0;ps20;ps7");
        tours(t, 3, 1, 1);
        t.walks(20);
        tours(t, 4, 1, 19);
        t.walks(7);
        tours(t, 8, 1, 6);
        HangmanMayor near = Check.town("ps1;ps0");
        near.walks(1);
        tours(near, 1, 1, 0);
        tours(near, 3, 1, 0);
    }

    private static void promise23_whomHeMetAlreadyMustBeMetAgain() {
        HangmanMayor t = Check.town("ps3;ps5");
        t.walks(6);
        tours(t, 3, 3, 3);
        tours(t, 2, 1, 5);
    }

    private static void promise23_toEitherSideTheNearerFirst() {
        HangmanMayor t = Check.town("ps7;ps13;ps12;ps8;ps10;ps0");
        t.walks(10);
        tours(t, 1 + 2, 9, 7);
        tours(t, 1 + 4, 7, 7);
        tours(t, 8 + 2, 7, 13);
        tours(t, 8 + 4, 6, 8);
        tours(t, 16 + 2, 3, 13);
        tours(t, 16 + 8, 2, 8);
        tours(t, 63, 16, 0);
        HangmanMayor first = Check.town("ps9;ps3;ps1");
        tours(first, 1, 9, 9);
        tours(first, 7, 9, 9);
        first.walks(4);
        tours(first, 7, 11, 9);
        first.walks(12);
        tours(first, 1, 3, 9);
        tours(first, 7, 11, 1);
    }

    private static void promise23_stepsThereAreDoNotMatter() {
        HangmanMayor t = Check.town("ps0;ps20");
        t.walks(20);
        t.walks(10);
        t.walks(20);
        Check.due("forty steps", t.count(7), 40);
        tours(t, 1, 20, 0);
        tours(t, 3, 20, 0);
        HangmanMayor mid = Check.town("ps0;ps20");
        mid.walks(15);
        mid.walks(10);
        mid.walks(20);
        mid.walks(10);
        Check.due("forty steps", mid.count(7), 40);
        tours(mid, 3, 30, 0);
    }

    // ---- 24: given

    private static void promise24_noSuchPersonsFewerThanTwo() {
        HangmanMayor t = Check.town("p;p;p");
        for (int persons : new int[] {0, 1, 2, 4, 8, 9, 15, -1, -8, Integer.MIN_VALUE, Integer.MAX_VALUE}) {
            for (int one = 0; one < 3; one++) {
                Check.due("persons " + persons, t.given(persons, one, true), NONE);
                Check.due("persons " + persons, t.given(persons, one, false), NONE);
            }
        }
        Check.due("none is given", t.count(10), 0);
        Check.due("two", t.given(6, 1, true), 1);
        Check.due("all", t.given(7, 1, true), 2);
        Check.due("all six", Check.town(SIX).given(63, 5, false), 1);
    }

    private static void promise24_theOneNotAmongThem() {
        HangmanMayor t = Check.town("p;p;p");
        for (int one : new int[] {2, 3, -1, 31, 32, 33, Integer.MIN_VALUE, Integer.MAX_VALUE}) {
            Check.due("one " + one, t.given(3, one, true), NONE);
        }
        Check.due("none is given", t.count(10), 0);
    }

    private static void promise24_tenAtMost() {
        HangmanMayor t = Check.town("p;pc9");
        for (int i = 1; i <= 10; i++) {
            Check.due("given", t.given(3, 1, true), i);
        }
        int fitting = t.likings(NONE);
        Check.due("an eleventh", t.given(3, 0, true), NONE);
        Check.due("ten", t.count(10), 10);
        Check.due("as many fit", t.likings(NONE), fitting);
        Check.tell(t, "p;p");
        Check.due("none of another town", t.count(10), 0);
        Check.due("the first", t.given(3, 0, true), 1);
    }

    private static void promise24_itIsNoAct() {
        HangmanMayor t = Check.town("p;p");
        t.give(1);
        t.image();
        t.given(3, 1, false);
        Check.due("one act", t.count(12), 1);
        t.undo();
        Check.due("not undone", t.count(10), 1);
        t.back();
        Check.due("not taken back", t.count(10), 1);
    }

    // ---- 25: likings

    private static void promise25_allAThousandAtFirst() {
        HangmanMayor t = Check.town("p;p");
        Check.due("how many", t.likings(NONE), 1000);
        Check.due("the first", t.likings(0), 0);
        Check.due("the last", t.likings(999), 999);
        for (int i : new int[] {1000, -2, Integer.MIN_VALUE, Integer.MAX_VALUE}) {
            Check.due("likings " + i, t.likings(i), NONE);
        }
    }

    private static void promise25_allAThousandAgainInAnotherTown() {
        HangmanMayor t = Check.town("pc0k0v0;pc1k0v0");
        t.given(3, 1, true);
        Check.due("900", t.likings(NONE), 900);
        Check.tell(t, "p;p");
        Check.due("1000", t.likings(NONE), 1000);
        for (int i = 0; i < 1000; i += 111) {
            Check.due("likings " + i, t.likings(i), i);
        }
    }

    private static void promise25_theFirstDigitIsForCourageTheLastAgainstVanity() {
        HangmanMayor courage = Check.town("pc0k0v0;pc1k0v0");
        courage.given(3, 1, true);
        Check.due("courage 1 .. 9", courage.likings(NONE), 900);
        Check.due("the first", courage.likings(0), 100);
        HangmanMayor kindness = Check.town("pc0k0v0;pc0k1v0");
        kindness.given(3, 1, true);
        Check.due("the first", kindness.likings(0), 10);
        Check.due("the last of courage 0", kindness.likings(89), 99);
        Check.due("the first of courage 1", kindness.likings(90), 110);
        HangmanMayor vanity = Check.town("pc0k0v1;pc0k0v0");
        vanity.given(3, 1, true);
        Check.due("the first", vanity.likings(0), 1);
        Check.due("behind 9", vanity.likings(9), 11);
    }

    private static void promise25_nothingFits() {
        HangmanMayor t = Check.town("p;p");
        t.given(3, 1, true);
        Check.due("none", t.likings(NONE), 0);
        Check.due("no first", t.likings(0), NONE);
        Check.due("given all the same", t.given(3, 0, true), 2);
        Check.due("none still", t.likings(NONE), 0);
    }

    private static void promise25_justOneFits() {
        HangmanMayor t = Check.town("pc0k0v1;pc0k0v0;pc1k0v0;pc0k1v0");
        t.given(3, 0, true);
        t.given(6, 1, true);
        t.given(10, 1, true);
        Check.due("one", t.likings(NONE), 1);
        Check.due("000", t.likings(0), 0);
        Check.due("no second", t.likings(1), NONE);
    }

    private static void promise25_alikeTheLowestWouldBePicked() {
        HangmanMayor is = Check.town("pc1k0v0;pc0k1v0");
        is.given(3, 0, true);
        Check.due("courage as much as kindness or more", is.likings(NONE), 550);
        HangmanMayor not = Check.town("pc1k0v0;pc0k1v0");
        not.given(3, 0, false);
        Check.due("kindness more", not.likings(NONE), 450);
        Check.due("the first", not.likings(0), 10);
        Check.due("the last", not.likings(449), 899);
    }

    private static void promise25_appealIsHeldHereToo() {
        HangmanMayor t = Check.town("pc9k8v0;pc9k9v0");
        t.given(3, 0, true);
        Check.due("no kindness, or both are held", t.likings(NONE), 100 + 10 * heldAt99());
    }

    /** By how many likings for courage and for kindness even the less kind one has 99 or more. */
    private static int heldAt99() {
        int pairs = 0;
        for (int c = 0; c < 10; c++) {
            for (int k = 1; k < 10; k++) {
                pairs += 9 * c + 8 * k >= 99 ? 1 : 0;
            }
        }
        return pairs;
    }

    private static void promise25_asToldWithoutALawNobodyAway() {
        HangmanMayor t = Check.town("pc1k0v0;pc0k1v0");
        Check.rule(t, "y:v");
        t.leaves(0);
        Check.times(3, () -> t.feigns(1, 0));
        t.given(3, 1, true);
        Check.due("kindness more", t.likings(NONE), 450);
    }

    // ---- 26: show

    private static void promise26_nothingFits() {
        HangmanMayor t = Check.town("p;p;p");
        t.given(7, 2, true);
        Check.due("nothing", t.show(), NONE);
    }

    private static void promise26_ofSeveralTheLeast() {
        Check.due("all alike", Check.town(SIX).show(), 1);
        Check.due("two", Check.town("p;pc9").show(), 1);
        HangmanMayor t = Check.town("p;p;pc9k0v0;pc0k9v0;pc9k0v0;pc0k9v0");
        Check.due("23 ahead of 25, 34, 45", t.show(), 23);
    }

    /** 230 and 770 for 0 and 1, 770 and 230 for 0 and 2: as far apart, the least; 872 and 128 for 1 and 2. */
    private static void promise26_asFarApartEitherWay() {
        Check.due("the least", Check.town("pc0k4v1;pc8k1v1;pc0k7v8").show(), 1);
    }

    /** 580 and 420 for 0 and 1, 420 and 580 for 0 and 2: as far apart, the least; 360 and 640 for 1 and 2. */
    private static void promise26_asFarApartTheOtherWay() {
        Check.due("the least", Check.town("pc7k3v6;pc0k9v6;pc6k8v9").show(), 1);
    }

    /** All 1000 for 0 and 1 (alike by 100 of them), 82 and 918 for 0 and 2, 10 and 990 for 1 and 2. */
    private static void promise26_alikeTheLowerIsPicked() {
        Check.due("0 and 2", Check.town("pc5k4v7;pc5k2v7;pc7k2v0").show(), 2);
    }

    private static void promise26_askedAgain() {
        HangmanMayor t = Check.town("pc0k4v1;pc8k1v1;pc0k7v8");
        Check.due("once", t.show(), 1);
        Check.due("twice", t.show(), 1);
        Check.tell(t, "pc5k4v7;pc5k2v7;pc7k2v0");
        Check.due("of another town", t.show(), 2);
        Check.due("twice", t.show(), 2);
    }

    private static void promise26_theLastPair() {
        HangmanMayor t = Check.town("pc9k9v0;pc8k8v1;pc7k7v2;pc6k6v3;pc5k0v4;pc0k5v4");
        Check.due("courage against kindness", t.show(), 45);
    }

    private static void promise26_whenJustOneFits() {
        HangmanMayor t = Check.town("pc0k0v1;pc0k0v0;pc1k0v0;pc0k1v0");
        t.given(3, 0, true);
        t.given(6, 1, true);
        t.given(10, 1, true);
        Check.due("1 apart, all", t.show(), 1);
    }

    // ---- 27: work

    private static void works(HangmanMayor t, int row, int much) {
        Check.due("row", t.work(0), row);
        Check.due("how much", t.work(1), much);
    }

    private static void promise27_noTroubleNoSuchWhat() {
        HangmanMayor t = Check.town("p;p");
        works(t, NONE, 0);
        for (int what : new int[] {-1, 2, Integer.MIN_VALUE, Integer.MAX_VALUE}) {
            Check.due("what " + what, t.work(what), NONE);
            Check.due("what " + what, Check.town("p;p;t").work(what), NONE);
        }
    }

    private static void promise27_nobodyMeetsAny() {
        works(Check.town("pc0;pc0;tn9;tn9;tn9;tn9;tn9"), 99999, 0);
        works(Check.town("pc0;pc0;tn1"), 9, 0);
        works(Scenes.deserted(), 9, 0);
    }

    private static void promise27_asMuchAsItAsks() {
        works(Check.town("pc4;pc5;tn5"), 1, 3);
        works(Check.town("pc4k5;pc5;tw1n5"), 0, 3);
        works(Check.town("pc4v0;pc5v9;tw2n9"), 1, 3);
        works(Check.town("pc4;pc4;tn0g9"), 0, 9);
    }

    private static void promise27_eachMeetsOneAtMost() {
        works(Check.town("pc9;pc0;tn5g1;tn5g9;tn5g9"), 909, 9);
        works(Check.town("pc9;pc9;tn5g1;tn5g9;tn5g9"), 901, 18);
    }

    private static void promise27_theLeastRow() {
        works(Check.town("pc9;pc9;tn5;tn5"), 1, 6);
        works(Check.town("pc9;pc9;p;tn5;tn5"), 1, 6);
        works(Check.town("p;pc9;pc9;tn5"), 1, 3);
        works(Check.town("pc9;pc9;pc9;pc9;pc9;pc9;t;t;t;t;t"), 1234, 15);
        works(Check.town("pc9k0;pc9k9;tn5;tw1n5"), 1, 6);
        works(Check.town("pc9k9;pc9k0;tn5;tw1n5"), 10, 6);
    }

    private static void promise27_whoIsAwayMeetsNone() {
        HangmanMayor t = Check.town("pc9;pc9;tn5;tn5");
        t.leaves(0);
        works(t, 19, 3);
        t.leaves(1);
        works(t, 99, 0);
    }

    private static void promise27_asToldAndAsItAsksNow() {
        HangmanMayor t = Check.town("pc4v9;pc3v0;tn5g7");
        t.feigns(0, 0);
        works(t, 9, 0);
        t.martinmas(1);
        works(t, 0, 7);
        t.martinmas(1);
        works(t, 9, 0);
    }
}
