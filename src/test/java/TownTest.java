/** Promises 6 to 9, and how he takes to somebody by a law: rule, person, trouble, law, appeal. */
public final class TownTest {
    public static void main(String[] args) {
        rules();
        persons();
        troubles();
        laws();
        lawLetters();
        lawNumbers();
        Check.finish();
    }

    private static void rules() {
        HangmanMayor t = Check.town("p;p");
        int[] usual = {3, 3, 2, 20};
        for (int i = 0; i < 4; i++) {
            Check.due("rule(" + i + ")", t.rule(i), usual[i]);
        }
        Check.due("rule(-1)", t.rule(-1), -1);
        Check.due("rule(4)", t.rule(4), -1);
        t = Check.town("p;sm7v1k0c9;p");
        int[] told = {9, 0, 1, 7};
        for (int i = 0; i < 4; i++) {
            Check.due("told rule(" + i + ")", t.rule(i), told[i]);
        }
        t.give(5);
        Check.due("coins now", t.rule(3), 12);
        Check.due("no town", new HangmanMayor().rule(3), -1);
    }

    private static void persons() {
        HangmanMayor t = Check.town("p;ps20v9k8c7");
        int[] usual = {4, 4, 2, 0, 0, 0, 0};
        int[] told = {7, 8, 9, 20, 0, 0, 0};
        for (int i = 0; i < 7; i++) {
            Check.due("usual person " + i, Check.person(t, 0, i), usual[i]);
            Check.due("told person " + i, Check.person(t, 1, i), told[i]);
        }
        int[][] none = {{-1, 0}, {2, 0}, {0, -1}, {0, 7}, {Integer.MIN_VALUE, 0}, {0, Integer.MAX_VALUE}};
        for (int[] one : none) {
            Check.due("person " + one[0] + ", " + one[1], Check.person(t, one[0], one[1]), Check.MISSING);
        }
        t.feigns(0, 0);
        t.feigns(1, 0);
        t.feigns(1, 0);
        t.feigns(1, 1);
        t.leaves(1);
        t.walks(3);
        t.walks(0);
        Check.due("seems braver", Check.person(t, 0, 0), 6);
        Check.due("nine at most", Check.person(t, 1, 0), 9);
        Check.due("seems kinder", Check.person(t, 1, 1), 9);
        Check.due("met twice", Check.person(t, 0, 4), 2);
        Check.due("away", Check.person(t, 1, 5), 1);
        t.martinmas(1);
        Check.due("had the chain", Check.person(t, 0, 6), 1);
        Check.due("as told again", Check.person(t, 1, 0), 7);
        Check.due("not met", Check.person(t, 0, 4), 0);
        Check.due("away still", Check.person(t, 1, 5), 1);
    }

    private static void troubles() {
        HangmanMayor t = Check.town("p;p;t;tg9w2n0");
        int[][] want = {{0, 5, 3}, {2, 0, 9}};
        for (int i = 0; i < 2; i++) {
            for (int what = 0; what < 3; what++) {
                Check.due("trouble " + i + ", " + what, t.trouble(i, what), want[i][what]);
            }
        }
        int[][] none = {{-1, 0}, {2, 0}, {0, -1}, {0, 3}};
        for (int[] one : none) {
            Check.due("trouble " + one[0] + ", " + one[1], t.trouble(one[0], one[1]), -1);
        }
        t.martinmas(1);
        Check.due("grew less", t.trouble(0, 1), 4);
        Check.due("asks for more", t.trouble(1, 1), 1);
    }

    private static void laws() {
        HangmanMayor t = Check.town("pc5k4v3;p");
        Check.due("likings alone", t.appeal(0), 15 + 12 - 6);
        Check.due("no law 0", t.law(0), false);
        Check.due("none", t.law(-1), true);
        Check.feed(t, "y:1");
        t.text(1);
        Check.feed(t, "y:2");
        t.text(1);
        Check.due("not by itself", t.appeal(0), 21);
        Check.due("law 1", t.law(1), true);
        Check.due("law 1 again", t.law(1), true);
        Check.due("it holds", t.count(4), 1);
        Check.due("its worth", t.appeal(0), 2);
        Check.due("no law 2", t.law(2), false);
        Check.due("no law -2", t.law(-2), false);
        Check.due("the other still holds", t.count(4), 1);
        Check.due("law 0", t.law(0), true);
        Check.due("its worth", t.appeal(0), 1);
        Check.due("none", t.law(-1), true);
        Check.due("likings again", t.appeal(0), 21);
        Check.due("held above", Check.town("sc9k9v0;pc9k9;p").appeal(0), 99);
        t = Check.town("sc0k0v9;pv9;p");
        Check.due("-81", t.appeal(0), -81);
        Check.due("of nobody", t.appeal(2), HangmanMayor.HIDDEN);
        Check.due("of nobody below", t.appeal(-1), HangmanMayor.HIDDEN);
    }

    private static int worth(String law) {
        HangmanMayor t = Check.town("pc1k2v3;p");
        Check.rule(t, law);
        return t.appeal(0);
    }

    private static void lawLetters() {
        HangmanMayor t = Check.town("sm99;pc1k2v3s4;ps9");
        Check.rule(t, "y:y=0?c*10+k-v;y:h*10+y");
        Check.due("c k v", t.appeal(0), 9);
        t.feigns(0, 0);
        t.feigns(0, 1);
        Check.due("as they seem", t.appeal(0), 31);
        Check.rule(t, "y:m*11");
        t.walks(5);
        t.walks(3);
        Check.due("m", t.appeal(0), 22);
        Check.due("m of another", t.appeal(1), 0);
        t.law(0);
        t.martinmas(2);
        Check.due("h, y: met once, then vainest", t.appeal(0), 22);
        Check.rule(t, "y:y");
        t.martinmas(60);
        t.martinmas(37);
        Check.due("y 99", t.appeal(1), 99);
        t.martinmas(1);
        Check.due("y 100 is 0", t.appeal(1), 0);
        t.martinmas(3);
        Check.due("y 103 is 3", t.appeal(1), 3);
    }

    private static void lawNumbers() {
        Check.due("from the left", worth("y:20-5-3"), 12);
        Check.due("* first", worth("y:2+3*4"), 14);
        Check.due("/ from the left", worth("y:40/4/5"), 2);
        Check.due("brackets", worth("y:[2+3]*4"), 20);
        Check.due("cut towards 0", worth("y:[0-7]/2"), -3);
        Check.due("by 0", worth("y:5/[c-1]"), 0);
        Check.due("held above", worth("y:100"), 99);
        Check.due("held below", worth("y:0-100"), -99);
        Check.due("a million at most", worth("y:[9999*9999-9999*100]/50"), 2);
        Check.due("a million at least", worth("y:[0-9999*9999+9999*100]/50"), -2);
        Check.due("a million by +", worth("y:[9999*100+9999*100-9999*100]/50"), 2);
        Check.due("a million by -", worth("y:[0-9999*100-9999*100+9999*100]/50"), -2);
        Check.due("just a million", worth("y:[9999*9999-9999*100]/101"), 0);
        Check.due("a million itself", worth("y:[9999*9999-9999*100]/100"), 1);
        Check.due("minus a million itself", worth("y:[0-9999*9999+9999*100]/100"), -1);
        Check.due("just minus a million", worth("y:[0-9999*9999+9999*100]/101"), 0);
        Check.due("the first that holds", worth("y:c=2?1;y:k=2?2;y:v=3?3;y:4"), 2);
        Check.due("none holds", worth("y:c=2?1;y:k=3?2"), 0);
        Check.due("& binds more", worth("y:c=1|k=9&v=9?5;y:6"), 5);
        Check.due("( )", worth("y:(c=1|k=9)&v=9?5;y:6"), 6);
        Check.due("! of a unit", worth("y:!c=1|k=2?5;y:6"), 5);
        Check.due("! of ( )", worth("y:!(c=1|k=2)?5;y:6"), 6);
        Check.due("!!", worth("y:!!c=1?5;y:6"), 5);
        Check.due("<", worth("y:c<k&!k<c&!c<c?5;y:6"), 5);
        Check.due(">", worth("y:v>k&!k>v&!v>v?5;y:6"), 5);
        Check.due("=", worth("y:[c+k]=v?5;y:6"), 5);
        Check.due("blanks", worth(" y : c = 1 ? 1 + 2 * 30 ; y : 9 "), 61);
        Check.due("deep", worth("y:!(!([[c]+[k]]=v))?[[[[[[7]]]]]];y:8"), 7);
        Check.due("a whole tape", worth("y:1" + "+1".repeat(98) + "-1".repeat(20)), 79);
        Check.due("many clauses", worth("y:c=9?1;".repeat(29) + "y:42"), 42);
        Check.due("many", worth("y:1+1+1+1+1+1+1+1+1+1*2*2*2*2-1-1-1"), 22);
    }
}
