/** Promises 34 to 36: image, back, count. */
public final class ImageTest {
    public static void main(String[] args) {
        none();
        backAndForth();
        longLog();
        counts();
        Check.finish();
    }

    private static void none() {
        HangmanMayor t = new HangmanMayor();
        Check.due("no town", t.image(), -1);
        Check.due("no image", t.back(), -1);
        Check.tell(t, "p;p");
        Check.due("no image", t.back(), -1);
        Check.due("year", t.image(), 0);
        Check.tell(t, "p;p");
        Check.due("of another town", t.back(), -1);
        Check.feed(t, "p");
        t.image();
        t.text(0);
        Check.due("a refused text leaves it", t.back(), 0);
    }

    private static void backAndForth() {
        HangmanMayor t = Check.town("sm30;ps1v5;pc9s3v7;pc9s9;tn7");
        t.martinmas(1);
        t.leaves(2);
        t.walks(2);
        t.feigns(0, 0);
        t.feigns(0, 1);
        Check.due("image", t.image(), 1);
        t.given(3, 0, true);
        t.fate(7);
        t.walks(21);
        t.walks(8);
        t.leaves(0);
        t.martinmas(5);
        t.give(9);
        Check.due("back", t.back(), 1);
        int[] counts = {3, 1, 0, 0, -1, 1, 2, 2, 0, 7, 1, 1, 0};
        for (int i = 0; i < counts.length; i++) {
            Check.due("back: count(" + i + ")", t.count(i), counts[i]);
        }
        Check.due("no act can be undone", t.undo(), -1);
        Check.due("coins", t.rule(3), 29);
        Check.due("feigned", Check.person(t, 0, 0), 6);
        Check.due("feigned", Check.person(t, 0, 1), 6);
        Check.due("met", t.most(7), 1);
        Check.due("away", t.most(8), 4);
        Check.due("chain", Check.person(t, 1, 6), 1);
        Check.due("by the rest", t.most(10), 1);
        Check.due("by him", t.most(11), 0);
        Check.due("asks", t.trouble(0, 1), 8);
        Check.due("log", t.log(0, 0), 1);
        Check.due("status stays", t.status(1), 1);
        t.martinmas(1);
        Check.due("an act again", t.count(12), 1);
        Check.due("back once more", t.back(), 1);
        t.martinmas(1);
        Check.due("instead of the one ahead", t.image(), 2);
        Check.due("acts stay behind an image", t.count(12), 1);
        Check.due("undone", t.undo(), 0);
        Check.due("back to it", t.back(), 2);
    }

    private static void longLog() {
        HangmanMayor t = Check.town("ps1v0;ps9v1");
        t.walks(5);
        t.martinmas(1);
        t.martinmas(59);
        t.image();
        t.martinmas(50);
        Check.due("all by the rest", t.log(59, 0), 1);
        t.back();
        Check.due("the log is so again", t.log(59, 0), 0);
        Check.due("its length", t.count(11), 60);
        t.martinmas(1);
        Check.due("and goes on", t.log(59, 0), 1);
    }

    private static void counts() {
        HangmanMayor t = Check.town("sm9;p;ps9;p;tg4;tg2n9");
        Check.rule(t, "y:1");
        Check.feed(t, "abcde");
        t.martinmas(1);
        t.walks(7);
        t.walks(5);
        t.given(3, 1, false);
        t.fate(8);
        int[] counts = {3, 2, 1, 5, 0, 1, 5, 9, 6, 8, 1, 1, 3};
        for (int i = 0; i < counts.length; i++) {
            Check.due("count(" + i + ")", t.count(i), counts[i]);
        }
        Check.due("count(13)", t.count(13), HangmanMayor.HIDDEN);
        Check.due("count(-1)", t.count(-1), HangmanMayor.HIDDEN);
        t.law(-1);
        Check.due("no law holds", t.count(4), -1);
    }
}
