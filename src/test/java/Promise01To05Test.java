/** The boundary cases of promises 1 to 5, sentence by sentence: a new object, feed, end, fault, text. */
public final class Promise01To05Test {
    private static final int NONE = HangmanMayor.NONE;
    private static final int HIDDEN = HangmanMayor.HIDDEN;
    private static final int TOWN = 0;
    private static final int LAW = 1;

    public static void main(String[] args) {
        Promises.run(Promise01To05Test.class);
    }

    private static void townFault(String text, int fault) {
        Check.due("fault(0) of '" + text + "'", Check.fault(TOWN, text), fault);
    }

    private static void lawFault(String text, int fault) {
        Check.due("fault(1) of '" + text + "'", Check.fault(LAW, text), fault);
    }

    // ---- 1: a new object

    private static void promise01_thereIsNoTownAtFirst() {
        HangmanMayor t = new HangmanMayor();
        int[] counts = {0, 0, 0, 0, NONE, 0, 0, 0, 0, 1, 0, 0, 0};
        for (int what = 0; what < counts.length; what++) {
            Check.due("count " + what, t.count(what), counts[what]);
        }
        for (int what = 0; what < 5; what++) {
            Check.due("status " + what, t.status(what), 0);
        }
    }

    private static void promise01_actsAreRefusedWithoutATown() {
        HangmanMayor t = new HangmanMayor();
        Check.due("walks", t.walks(1), NONE);
        Check.due("feigns", t.feigns(0, 0), NONE);
        Check.due("leaves", t.leaves(0), NONE);
        Check.due("give", t.give(1), NONE);
        Check.due("martinmas", t.martinmas(1), NONE);
        Check.due("each of these five is a status 0", t.status(0), 5);
        Check.due("years", t.years(1, 1), NONE);
        Check.due("years has none", t.status(0), 5);
        Check.due("undo", t.undo(), NONE);
        Check.due("image", t.image(), NONE);
        Check.due("back", t.back(), NONE);
        Check.due("given", t.given(3, 0, true), NONE);
    }

    private static void promise01_nothingIsToldOfNoTown() {
        HangmanMayor t = new HangmanMayor();
        for (int what = 0; what < 12; what++) {
            Check.due("rule", t.rule(what), NONE);
            Check.due("person", Check.person(t, 0, what), Check.MISSING);
            Check.due("trouble", t.trouble(0, what), NONE);
            Check.due("log", t.log(0, what), HIDDEN);
            Check.due("most", t.most(what), NONE);
            Check.due("work", t.work(what), NONE);
            Check.due("tour", t.tour(1, what), NONE);
            Check.due("likings", t.likings(what - 1), NONE);
            Check.due("rests", t.rests(0, 1, what - 1), NONE);
        }
        Check.due("appeal", t.appeal(0), HIDDEN);
        Check.due("lead", t.lead(0), HIDDEN);
        Check.due("feigning", t.feigning(0), NONE);
        Check.due("show", t.show(), NONE);
        Check.due("game", t.game(0, 1, 0, 0, 0), HIDDEN);
        Check.due("odds", t.odds(0, 0), NONE);
        Check.due("first", t.first(0), NONE);
        Check.due("shares", t.shares(0, 0), NONE);
    }

    private static void promise01_theConstants() {
        Check.due("NONE", HangmanMayor.NONE, -1);
        Check.due("HIDDEN", HangmanMayor.HIDDEN, -1000000);
    }

    private static void promise01_twoObjectsShareNothing() {
        HangmanMayor one = Check.town("p;p;t");
        Check.rule(one, "y:1");
        one.fate(5);
        one.walks(99);
        Check.feed(one, "abc");
        promise01_thereIsNoTownAtFirst();
    }

    // ---- 2: feed

    private static void promise02_ofEachNumberTheHighestByteComesFirst() {
        HangmanMayor t = new HangmanMayor();
        // "pc1k2v3s4;pc5k6v7s8 "
        Check.due("twenty", t.feed(0x7063316b, 0x32763373, 0x343b7063, 0x356b3676, 0x37733820), 20);
        Check.due("two persons", t.text(TOWN), 2);
        for (int what = 0; what < 4; what++) {
            Check.due("of the first", Check.person(t, 0, what), 1 + what);
            Check.due("of the second", Check.person(t, 1, what), 5 + what);
        }
    }

    private static void promise02_bytesOf0AreLeftOut() {
        HangmanMayor t = new HangmanMayor();
        Check.due("nothing", t.feed(0, 0, 0, 0, 0), 0);
        Check.due("p", t.feed(0x70000000, 0, 0, 0, 0), 1);
        Check.due("; in the second place", t.feed(0, 0x003b0000, 0, 0, 0), 2);
        Check.due("p in the third", t.feed(0, 0, 0x00007000, 0, 0), 3);
        Check.due("; in the fourth", t.feed(0, 0, 0, 0x0000003b, 0), 4);
        Check.due("p and v0 with gaps", t.feed(0, 0, 0, 0x70, 0x76003000), 7);
        Check.due("p;p;pv0", t.text(TOWN), 3);
        Check.due("v0 is told", Check.person(t, 2, 2), 0);
    }

    private static void promise02_bytesAbove127AreBytes() {
        HangmanMayor t = new HangmanMayor();
        Check.due("all 255", t.feed(-1, -1, -1, -1, -1), 20);
        Check.due("one of 128", t.feed(Integer.MIN_VALUE, 0, 0, 0, 0), 21);
        Check.due("wrong from the first on", t.fault(TOWN), 0);
        // a byte is no sign that it equals but for its highest bit: 0xf0 is no p
        lawFault("y:c\u00bb", 3);
        townFault("p;\u00f0", 2);
    }

    private static void promise02_240BytesAreTaken() {
        HangmanMayor t = new HangmanMayor();
        for (int i = 1; i <= 12; i++) {
            Check.due("twenty more", t.feed(0x20202020, 0x20202020, 0x20202020, 0x20202020, 0x20202020), 20 * i);
        }
        Check.due("240", t.count(3), 240);
    }

    private static void promise02_moreThan240AreRefusedWhole() {
        HangmanMayor t = new HangmanMayor();
        Check.feed(t, "p;p" + " ".repeat(236));
        Check.due("239 and two", t.feed(0x3b3b0000, 0, 0, 0, 0), NONE);
        Check.due("239 and two apart", t.feed(0x3b, 0, 0, 0, 0x3b000000), NONE);
        Check.due("239 and twenty", t.feed(-1, -1, -1, -1, -1), NONE);
        Check.due("none of them came", t.count(3), 239);
        Check.due("the text is as it was", t.fault(TOWN), NONE);
        Check.due("239 and one", t.feed(0, 0, 0, 0, 0x3b), 240);
        Check.due("which is there", t.fault(TOWN), 240);
    }

    private static void promise02_bytesOfAllFiveNumbersAreCounted() {
        for (int one = 0; one < 5; one++) {
            for (int other = 0; other < 5; other++) {
                HangmanMayor t = new HangmanMayor();
                Check.feed(t, " ".repeat(238));
                int[] n = new int[5];
                n[one] |= 0x70000000;
                n[other] |= 0x7070;
                Check.due("238 and three", t.feed(n[0], n[1], n[2], n[3], n[4]), NONE);
                Check.due("none came", t.count(3), 238);
                n[other] &= 0xffff00ff;
                Check.due("238 and two", t.feed(n[0], n[1], n[2], n[3], n[4]), 240);
            }
        }
    }

    private static void promise02_aFullTapeTakesZerosAlone() {
        HangmanMayor t = new HangmanMayor();
        Check.feed(t, "p;p" + " ".repeat(237));
        Check.due("one more", t.feed(1, 0, 0, 0, 0), NONE);
        Check.due("no more", t.feed(0, 0, 0, 0, 0), 240);
        Check.due("it can be used", t.text(TOWN), 2);
        Check.due("empty then", t.feed(0, 0, 0, 0, 1), 1);
    }

    // ---- 3: end

    private static void promise03_theFirstNBytesAreLeft() {
        HangmanMayor t = new HangmanMayor();
        Check.feed(t, "p;px;x");
        Check.due("cut to 3", t.end(3), true);
        Check.due("bytes", t.count(3), 3);
        Check.due("p;p", t.fault(TOWN), NONE);
        Check.due("the rest is gone", t.end(4), false);
        Check.feed(t, ";t");
        Check.due("bytes go on behind them", t.text(TOWN), 2);
        Check.due("t", t.count(1), 1);
    }

    private static void promise03_nMayBe0OrTheLength() {
        HangmanMayor t = new HangmanMayor();
        Check.due("0 of none", t.end(0), true);
        Check.feed(t, "p;p");
        Check.due("all of it", t.end(3), true);
        Check.due("nothing is lost", t.fault(TOWN), NONE);
        Check.due("none of it", t.end(0), true);
        Check.due("empty", t.count(3), 0);
        Check.feed(t, " ".repeat(240));
        Check.due("240", t.end(240), true);
    }

    private static void promise03_anotherNIsRefused() {
        HangmanMayor t = new HangmanMayor();
        Check.due("1 of none", t.end(1), false);
        Check.due("-1 of none", t.end(-1), false);
        Check.feed(t, "p;p");
        for (int n : new int[] {-1, 4, 240, Integer.MIN_VALUE, Integer.MAX_VALUE}) {
            Check.due("end " + n, t.end(n), false);
            Check.due("as it was", t.count(3), 3);
        }
        Check.feed(t, " ".repeat(237));
        Check.due("241", t.end(241), false);
        Check.due("as it was", t.text(TOWN), 2);
        Check.due("0 behind a text", t.end(0), true);
        Check.due("1 behind a text", t.end(1), false);
    }

    // ---- 4: fault, of a TOWN

    private static void promise04_anEmptyTapeIsWrongAtItsLength() {
        townFault("", 0);
        townFault("  ", 2);
        lawFault("", 0);
        lawFault("  ", 2);
        townFault(" ".repeat(240), 240);
        lawFault(" ".repeat(240), 240);
    }

    private static void promise04_noSuchSort() {
        for (String text : new String[] {"", "p;p", "y:c", "?"}) {
            for (int sort : new int[] {-1, 2, -2, Integer.MIN_VALUE, Integer.MAX_VALUE}) {
                Check.due("sort " + sort, Check.fault(sort, text), -2);
            }
        }
    }

    private static void promise04_twoPersonsAtLeast() {
        townFault("p", 1);
        townFault("s", 1);
        townFault("t;s;p", 5);
        townFault("p ", 2);
        townFault("pc9;t;t;t;t;t", 13);
        townFault("p;p", NONE);
    }

    private static void promise04_sixPersonsAtMost() {
        townFault("p;p;p;p;p;p", NONE);
        townFault("p;p;p;p;p;p;p", 12);
        townFault("p;p;p;p;p;p;pc99", 12);
        townFault("p;p;p;p;p;p; p", 13);
        townFault("p;p;p;t;p;p;p;p", 14);
    }

    private static void promise04_fiveTroublesAtMost() {
        townFault("p;p", NONE);
        townFault("p;p;t;t;t;t;t", NONE);
        townFault("p;p;t;t;t;t;t;t", 14);
        townFault("t;t;t;t;t;t;p;p", 10);
    }

    private static void promise04_oneClauseOfRulesAtMost() {
        townFault("p;p", NONE);
        townFault("p;s;p", NONE);
        townFault("s;s;p;p", 2);
        townFault("s;p;p;s", 6);
    }

    private static void promise04_allTwelveClausesInAnyOrder() {
        townFault("s;p;p;p;p;p;p;t;t;t;t;t", NONE);
        townFault("t;t;t;t;t;p;p;p;p;p;p;s", NONE);
        townFault("t;p;t;p;t;p;s;p;t;p;t;p", NONE);
        townFault("s;p;p;p;p;p;p;t;t;t;t;t;", 24);
        townFault("s;p;p;p;p;p;p;t;t;t;t;t;t", 24);
    }

    private static void promise04_clausesHaveASemicolonBetween() {
        townFault("p;p;", 4);
        townFault(";p;p", 0);
        townFault("p;;p", 2);
        townFault("pp", 1);
        townFault("p,p", 1);
        townFault("p:p", 1);
        townFault("p;p;x", 4);
        townFault("p;p;P", 4);
    }

    private static void promise04_aLetterOnceAtMostInAClause() {
        String[] kinds = {"sckvm", "pckvs", "twng"};
        for (String kind : kinds) {
            String clause = "p;p;" + kind.charAt(0);
            for (char letter : kind.substring(1).toCharArray()) {
                townFault(clause + letter + "1" + letter + "1", clause.length() + 2);
                townFault(clause + letter + "1 " + letter + "1", clause.length() + 3);
                townFault(clause + letter + letter, clause.length() + 1);
            }
        }
        townFault("pc1k1c1;p", 5);
        townFault("pc1;pc1;p;pc1", NONE);
        townFault("ps1s1;p", 3);
    }

    private static void promise04_aLetterOfAnotherClauseIsWrong() {
        String all = "abcdefghijklmnopqrstuvwxyz";
        String[] kinds = {"sckvm", "pckvs", "twng"};
        for (String kind : kinds) {
            for (char letter : all.toCharArray()) {
                String clause = "p;p;" + kind.charAt(0);
                boolean there = kind.indexOf(letter, 1) > 0;
                townFault(clause + letter + "1", there ? NONE : clause.length());
            }
        }
    }

    private static void promise04_eachNumberHasItsBounds() {
        String[] clauses = {"sc", "sk", "sv", "sm", "pc", "pk", "pv", "ps", "tw", "tn", "tg"};
        int[] least = {0, 0, 0, 0, 0, 0, 0, 0, 0, 0, 1};
        int[] most = {9, 9, 9, 99, 9, 9, 9, 20, 2, 9, 9};
        for (int i = 0; i < clauses.length; i++) {
            String from = "p;p;" + clauses[i];
            for (int n = 0; n < 100; n++) {
                boolean within = n >= least[i] && n <= most[i];
                int last = (from + n).length() - 1;
                townFault(from + n, within ? NONE : last);
                townFault(from + n + " ;t", within ? NONE : last);
                if (n < 10) {
                    townFault(from + "0" + n, within ? NONE : last + 1);
                }
            }
        }
    }

    private static void promise04_aThirdDigitIsWrongItself() {
        townFault("sm999;p;p", 4);
        townFault("sm001;p;p", 4);
        townFault("sm0000;p;p", 4);
        townFault("pc999;p", 4);
        townFault("tg000;p;p", 4);
        townFault("ps210;p", 4);
        townFault("p;p;sm100", 8);
        townFault("p;p;sm10", NONE);
    }

    private static void promise04_aNumberHasADigitAtLeast() {
        townFault("pc;p", 2);
        townFault("pc", 2);
        townFault("pc k1;p", 3);
        townFault("pc-1;p", 2);
        townFault("pc+1;p", 2);
        townFault("p;p1", 3);
        townFault("p;p;1", 4);
        townFault("pc/;p", 2);
        townFault("pc:;p", 2);
    }

    private static void promise04_blanksMayStandBetweenSignsNotWithinNumbers() {
        townFault(" s m 12 c 3 ; p ; p s 20 ; t w 2 ", NONE);
        townFault("sm1 2;p;p", 4);
        townFault("sm 12;p;p", NONE);
        townFault("p; p  s1   5", 11);
        townFault("p;p" + " ".repeat(237), NONE);
        townFault(" ".repeat(237) + "p;p", NONE);
        townFault("p" + " ".repeat(237) + ";p", NONE);
        townFault("p;" + " ".repeat(237) + "x", 239);
    }

    private static void promise04_justThe32IsABlank() {
        for (int sign = 1; sign < 256; sign++) {
            char c = (char) sign;
            boolean goesOn = c == ' ';
            townFault("p;p" + c, goesOn ? NONE : c == ';' ? 4 : "ckvs".indexOf(c) >= 0 ? 4 : 3);
            townFault(c + "p;p", goesOn ? NONE : "spt".indexOf(c) >= 0 ? 1 : 0);
            lawFault(c + "y:1", goesOn ? NONE : c == 'y' ? 1 : 0);
            lawFault("y:1" + c, goesOn || c >= '0' && c <= '9' ? NONE : "+-*/=<>;".indexOf(c) >= 0 ? 4 : 3);
        }
    }

    // ---- 4: fault, of a LAW

    private static void promise04_aLawHasOneClauseAtLeast() {
        lawFault("y", 1);
        lawFault("y:", 2);
        lawFault(";y:1", 0);
        lawFault("y:1;", 4);
        lawFault("y:1;;y:1", 4);
        lawFault("y:1;y:2", NONE);
        lawFault("y1", 1);
        lawFault("y:1y:2", 3);
        lawFault(("y:c;").repeat(59) + "y:c", NONE);
        lawFault(("y:c;").repeat(60), 240);
    }

    private static void promise04_fourDigitsInALawAtMost() {
        lawFault("y:9", NONE);
        lawFault("y:9999", NONE);
        lawFault("y:0000", NONE);
        lawFault("y:99999", 6);
        lawFault("y:00000", 6);
        lawFault("y:000000", 6);
        lawFault("y:1 2345", 4);
        lawFault("y:1234 5", 7);
        lawFault("y:1=12345?1", 8);
        lawFault("y:1=1?[12345]", 11);
    }

    private static void promise04_justSixLettersInALaw() {
        for (char letter = 'a'; letter <= 'z'; letter++) {
            boolean there = "ckvmhy".indexOf(letter) >= 0;
            lawFault("y:" + letter, there ? NONE : 2);
            lawFault("y:1=" + letter + "?1", there ? NONE : 4);
            lawFault("y:" + Character.toUpperCase(letter), 2);
        }
    }

    private static void promise04_sixWithinOneAnotherAtMost() {
        lawFault("y:[[[[[[1]]]]]]", NONE);
        lawFault("y:[[[[[[[1]]]]]]]", 8);
        lawFault("y:((((((1=1))))))?1", NONE);
        lawFault("y:(((((((1=1)))))))?1", 8);
        lawFault("y:!!!!!!1=1?1", NONE);
        lawFault("y:!!!!!!!1=1?1", 8);
        lawFault("y:!(!([[1]]=1))?1", NONE);
        lawFault("y:!(!([[[1]]]=1))?1", 8);
        lawFault("y:!(!(![[1]]=1))?1", 8);
        lawFault("y:((((((([1]=1", 8);
        lawFault("y:!!!(((1=[2]", 10);
        lawFault("y: ! ! ! ! ! ! ! 1", 15);
        lawFault("y:1=1?[[[[[[[1", 12);
        lawFault("y:1=1?[[[[[[1]]]]]]", NONE);
        lawFault("y:1=[[[[[[1]]]]]]?1", NONE);
        lawFault("y:1=[[[[[[[", 10);
    }

    private static void promise04_besideOneAnotherThereMayBeMore() {
        lawFault("y:[[[1]]]+[[[1]]]*[[[1]]]", NONE);
        lawFault("y:(((1=1)))&(((1=1)))|(((1=1)))?[[[[[[1]]]]]]", NONE);
        lawFault("y:!!!1=1&!!!1=1|!!!!!!1=1?1", NONE);
        lawFault("y:!!!1=1&!!!!!!!1=1", 15);
        lawFault("y:[[[[[[1]]]]]]=[[[[[[1]]]]]]?1", NONE);
        lawFault("y:[[[[[[1]]]]]];y:[[[[[[1]]]]]]", NONE);
        lawFault("y:!!!!!!1=1&[[[[[[1]]]]]]=1?1", NONE);
        lawFault("y:!!!!!!1=1&[[[[[[[1]", 18);
        lawFault("y:(!1=1&(1=1&[[[[1]]]]=1))?1", NONE);
    }

    private static void promise04_aClauseThatGoesOnWithABracketHasACondition() {
        lawFault("y:(1)", 4);
        lawFault("y:(1=1)", 7);
        lawFault("y:(1=1)+1", 7);
        lawFault("y:(1=1)=1", 7);
        lawFault("y:!1", 4);
        lawFault("y:!1=1", 6);
        lawFault("y:!1=1;y:1", 6);
        lawFault("y:(1=1)?1", NONE);
        lawFault("y:!1=1?1", NONE);
        lawFault("y:( )", 4);
        lawFault("y:()", 3);
    }

    private static void promise04_aSumOrAConditionEndsTooEarlyOrGoesOnTooFar() {
        lawFault("y:1?2", 3);
        lawFault("y:1=2", 5);
        lawFault("y:1=2?", 6);
        lawFault("y:1=2?3?4", 7);
        lawFault("y:1=2?3=4", 7);
        lawFault("y:1=2=3?4", 5);
        lawFault("y:1==2?3", 4);
        lawFault("y:1=2&3?4", 7);
        lawFault("y:1=2|?4", 6);
        lawFault("y:1=2&&1=2?4", 6);
        lawFault("y:1&2=2?3", 3);
        lawFault("y:1+", 4);
        lawFault("y:1+-2", 4);
        lawFault("y:-2", 2);
        lawFault("y:1*", 4);
        lawFault("y:[1", 4);
        lawFault("y:[]", 3);
        lawFault("y:1]", 3);
        lawFault("y:[1)", 4);
        lawFault("y:(1=1]", 6);
        lawFault("y:[1=1]", 4);
        lawFault("y:(1=1)?(1)", 8);
        lawFault("y:1=!1?1", 4);
        lawFault("y:1=(1)?1", 4);
        lawFault("y:1=2 3", 6);
        lawFault("y:1=2c", 5);
        lawFault("y:(1=1)1", 7);
        lawFault("y:=1?1", 2);
        lawFault("y:(=1)?1", 3);
        lawFault("y:1=1&=1?1", 6);
        lawFault("y:!=1?1", 3);
    }

    private static void promise04_blanksInALawStandNotWithinNumbers() {
        lawFault(" y : ! ( c = 1 | k > 22 ) & v < [ 3 + m ] ? h * 4444 ", NONE);
        lawFault("y:1 2", 4);
        lawFault("y:c c", 4);
        lawFault("y:1" + " ".repeat(237), NONE);
        lawFault("y:1" + "+1".repeat(118) + " ", NONE);
        lawFault("y:1" + "+1".repeat(118) + "+", 240);
    }

    private static void promise04_itChangesNothing() {
        HangmanMayor t = Check.town("p;p");
        Check.feed(t, "p;p;px");
        Check.due("as a town", t.fault(TOWN), 5);
        Check.due("as a law", t.fault(LAW), 0);
        Check.due("no such sort", t.fault(2), -2);
        Check.due("bytes", t.count(3), 6);
        Check.due("persons", t.count(0), 2);
        t.end(5);
        Check.due("no fault", t.fault(TOWN), NONE);
        Check.due("still the old town", t.count(0), 2);
        Check.due("still on the tape", t.count(3), 5);
    }

    // ---- 5: text

    private static void promise05_howManyPersons() {
        for (int n = 2; n <= 6; n++) {
            HangmanMayor t = new HangmanMayor();
            Check.feed(t, "p;".repeat(n) + "t");
            Check.due("persons", t.text(TOWN), n);
            Check.due("counted", t.count(0), n);
            Check.due("the tape is empty", t.count(3), 0);
            Check.due("which is no town", t.text(TOWN), NONE);
        }
    }

    private static void promise05_whatIsNotToldIsAsUsual() {
        HangmanMayor t = Check.town("p;pc9k8v7s6;t;tw1n0g9");
        int[] rules = {3, 3, 2, 20};
        int[] first = {4, 4, 2, 0, 0, 0, 0};
        int[] second = {9, 8, 7, 6, 0, 0, 0};
        int[] trouble = {0, 5, 3};
        int[] other = {1, 0, 9};
        for (int i = 0; i < 7; i++) {
            Check.due("person 0", Check.person(t, 0, i), first[i]);
            Check.due("person 1", Check.person(t, 1, i), second[i]);
        }
        for (int i = 0; i < 4; i++) {
            Check.due("rules", t.rule(i), rules[i]);
        }
        for (int i = 0; i < 3; i++) {
            Check.due("trouble 0", t.trouble(0, i), trouble[i]);
            Check.due("trouble 1", t.trouble(1, i), other[i]);
        }
    }

    private static void promise05_nothingOfAnEarlierTextComesIntoALaterOne() {
        HangmanMayor t = Check.town("sc9k8v7m6;pc1k1v1s1;pc9k9v9s9;pc9;tw2n9g9;tw1n1g1");
        Check.tell(t, "p;p");
        promise05_whatIsNotToldIsAsUsual();
        int[] rules = {3, 3, 2, 20};
        int[] person = {4, 4, 2, 0};
        for (int i = 0; i < 4; i++) {
            Check.due("rules", t.rule(i), rules[i]);
            Check.due("person", Check.person(t, 1, i), person[i]);
        }
        Check.due("no third person", Check.person(t, 2, 0), Check.MISSING);
        Check.due("no trouble", t.trouble(0, 0), NONE);
        // a refused text fills nothing in either
        Check.feed(t, "sc9m9;pc9k9v9s9;pv9;t;t?");
        Check.due("refused", t.text(TOWN), NONE);
        t.end(0);
        Check.tell(t, "p;p;t");
        for (int i = 0; i < 4; i++) {
            Check.due("rules", t.rule(i), rules[i]);
            Check.due("person", Check.person(t, 1, i), person[i]);
        }
        Check.due("asks", t.trouble(0, 1), 5);
    }

    private static void promise05_allThatWasOfAnotherTownIsGone() {
        HangmanMayor t = Scenes.busy();
        Check.due("years", t.count(5) > 0, true);
        t.end(0);
        Check.tell(t, "pv2s3;pv5s2;tn7g2");
        int[] counts = {2, 1, 4, 0, 1, 0, 0, 0, 0, 3, 0, 0, 0};
        for (int what = 0; what < counts.length; what++) {
            Check.due("count " + what, t.count(what), counts[what]);
        }
        Check.due("coins", t.rule(3), 20);
        for (int p = 0; p < 2; p++) {
            Check.due("courage", Check.person(t, p, 0), 4);
            Check.due("kindness", Check.person(t, p, 1), 4);
            Check.due("met", Check.person(t, p, 4), 0);
            Check.due("away", Check.person(t, p, 5), 0);
            Check.due("chain", Check.person(t, p, 6), 0);
        }
        Check.due("asks", t.trouble(0, 1), 7);
        Check.due("by the rest", t.most(10), 0);
        Check.due("by him", t.most(11), 0);
        Check.due("likings", t.likings(NONE), 1000);
        Check.due("log", t.log(0, 0), HIDDEN);
        Check.due("no act", t.undo(), NONE);
        Check.due("no image", t.back(), NONE);
    }

    private static void promise05_lawsWhichHoldsFateAndStatusStay() {
        HangmanMayor t = Check.town("p;pc9");
        Check.rule(t, "y:c");
        Check.rule(t, "y:7");
        t.law(1);
        t.fate(8);
        t.walks(21);
        t.walks(0);
        t.feigns(9, 9);
        Check.tell(t, "pc2;pc3");
        Check.due("laws", t.count(2), 2);
        Check.due("the one that holds", t.count(4), 1);
        Check.due("holds", t.appeal(0), 7);
        Check.due("the other", t.law(0), true);
        Check.due("is as it was", t.appeal(1), 3);
        Check.due("fate", t.count(9), 8);
        Check.due("status 0", t.status(0), 1);
        Check.due("status 1", t.status(1), 1);
        Check.due("status 2", t.status(2), 1);
    }

    private static void promise05_aLawChangesNothingOfTheTown() {
        HangmanMayor t = Check.town("p;p;t");
        t.walks(1);
        t.image();
        t.given(3, 0, true);
        Check.feed(t, "y:9");
        Check.due("its number", t.text(LAW), 0);
        Check.due("the tape is empty", t.count(3), 0);
        Check.due("acts", t.count(12), 1);
        Check.due("given", t.count(10), 1);
        Check.due("steps", t.count(7), 1);
        Check.due("it does not hold by itself", t.count(4), NONE);
        Check.due("image", t.back(), 0);
    }

    private static void promise05_fourLawsAtMost() {
        HangmanMayor t = new HangmanMayor();
        for (int i = 0; i < 4; i++) {
            Check.feed(t, "y:" + i);
            Check.due("its number", t.text(LAW), i);
        }
        Check.feed(t, "y:4");
        Check.due("a fifth one", t.text(LAW), NONE);
        Check.due("is no fault", t.fault(LAW), NONE);
        Check.due("it stays on the tape", t.count(3), 3);
        Check.due("four", t.count(2), 4);
        t.end(0);
        Check.tell(t, "p;p");
        for (int i = 0; i < 4; i++) {
            t.law(i);
            Check.due("the " + i + "th", t.appeal(0), i);
        }
        Check.feed(t, "y:4");
        Check.due("a fifth one, in another town", t.text(LAW), NONE);
    }

    private static void promise05_aFaultIsRefused() {
        HangmanMayor t = Check.town("p;pc7;p");
        Check.feed(t, "pc1;p;p;p;px");
        Check.due("a town with a fault", t.text(TOWN), NONE);
        Check.due("as a law", t.text(LAW), NONE);
        Check.due("the tape stays", t.count(3), 12);
        Check.due("the town stays", t.count(0), 3);
        Check.due("as it was", Check.person(t, 1, 0), 7);
        t.end(0);
        Check.due("an empty town", t.text(TOWN), NONE);
        Check.due("an empty law", t.text(LAW), NONE);
        Check.due("no law", t.count(2), 0);
    }

    private static void promise05_noSuchSort() {
        HangmanMayor t = new HangmanMayor();
        Check.feed(t, "p;p");
        for (int sort : new int[] {-1, 2, Integer.MIN_VALUE, Integer.MAX_VALUE}) {
            Check.due("sort " + sort, t.text(sort), NONE);
            Check.due("the tape stays", t.count(3), 3);
            Check.due("no town", t.count(0), 0);
            Check.due("no law", t.count(2), 0);
        }
    }
}
