import java.util.function.Supplier;
import java.util.function.ToIntFunction;

/**
 * "What is refused answers as told and changes nothing but STATUS": for each promise that refuses, each way of it. Of two
 * objects that are alike one gets the refused call; both must be alike to the ground then, but for the status that is due.
 */
public final class PromiseRefusedTest {
    private static final int NONE = HangmanMayor.NONE;
    private static final int HIDDEN = HangmanMayor.HIDDEN;
    private static final int NO_STATUS = -1;

    public static void main(String[] args) {
        Promises.run(PromiseRefusedTest.class);
    }

    private static void refused(Supplier<HangmanMayor> scene, ToIntFunction<HangmanMayor> call, int answer, int reason) {
        HangmanMayor tried = scene.get();
        HangmanMayor twin = scene.get();
        Check.due("answer", call.applyAsInt(tried), answer);
        for (int i = 0; i < 5; i++) {
            Check.due("status " + i, tried.status(i), twin.status(i) + (i == reason ? 1 : 0));
        }
        View.compareToTheGround(tried, twin);
    }

    private static void refused(Supplier<HangmanMayor> scene, ToIntFunction<HangmanMayor> call, int answer) {
        refused(scene, call, answer, NO_STATUS);
    }

    private static int bit(boolean is) {
        return is ? 1 : 0;
    }

    private static void promise02_feedBeyond240() {
        Supplier<HangmanMayor> scene = () -> {
            HangmanMayor t = Scenes.busy();
            Check.feed(t, " ".repeat(234));
            return t;
        };
        refused(scene, t -> t.feed(0x3b, 0x70, 0, 0, 0), NONE);
        refused(scene, t -> t.feed(-1, -1, -1, -1, -1), NONE);
    }

    private static void promise03_endOutOfBounds() {
        refused(Scenes::busy, t -> bit(t.end(6)), 0);
        refused(Scenes::busy, t -> bit(t.end(-1)), 0);
        refused(Scenes::none, t -> bit(t.end(1)), 0);
    }

    private static void promise04_faultChangesNothing() {
        refused(Scenes::busy, t -> t.fault(2), -2);
        refused(Scenes::busy, t -> t.fault(-1), -2);
        refused(Scenes::busy, t -> t.fault(1), 0);
        refused(Scenes::busy, t -> t.fault(0), NONE);
        refused(Scenes::lawsAlone, t -> t.fault(0), NONE);
    }

    private static void promise05_textWithAFault() {
        Supplier<HangmanMayor> scene = () -> {
            HangmanMayor t = Scenes.busy();
            Check.feed(t, ";pc9;pv9;tn1g9;tn99");
            return t;
        };
        refused(scene, t -> t.text(0), NONE);
        refused(scene, t -> t.text(1), NONE);
    }

    private static void promise05_textOfNoSuchSort() {
        refused(Scenes::busy, t -> t.text(2), NONE);
        refused(Scenes::busy, t -> t.text(-1), NONE);
        refused(Scenes::lawsAlone, t -> t.text(2), NONE);
    }

    private static void promise05_textOfAFifthLaw() {
        refused(Scenes::full, t -> t.text(1), NONE);
    }

    private static void promise06_rule() {
        refused(Scenes::busy, t -> t.rule(4), NONE);
        refused(Scenes::busy, t -> t.rule(-1), NONE);
        refused(Scenes::lawsAlone, t -> t.rule(0), NONE);
    }

    private static void promise07_person() {
        refused(Scenes::busy, t -> Check.person(t, 4, 0), Check.MISSING);
        refused(Scenes::busy, t -> Check.person(t, 0, 7), Check.MISSING);
        refused(Scenes::lawsAlone, t -> Check.person(t, 0, 0), Check.MISSING);
    }

    private static void promise08_trouble() {
        refused(Scenes::busy, t -> t.trouble(2, 0), NONE);
        refused(Scenes::busy, t -> t.trouble(0, 3), NONE);
        refused(Scenes::lawsAlone, t -> t.trouble(0, 0), NONE);
    }

    private static void promise09_law() {
        refused(Scenes::busy, t -> bit(t.law(4)), 0);
        refused(Scenes::busy, t -> bit(t.law(-2)), 0);
        refused(Scenes::lawsAlone, t -> bit(t.law(2)), 0);
        refused(Scenes::none, t -> bit(t.law(0)), 0);
    }

    private static void promise10_walks() {
        refused(Scenes::none, t -> t.walks(1), NONE, 0);
        refused(Scenes::lawsAlone, t -> t.walks(99), NONE, 0);
        refused(Scenes::busy, t -> t.walks(21), NONE, 1);
        refused(Scenes::busy, t -> t.walks(-1), NONE, 1);
        refused(Scenes::busy, t -> t.walks(4), NONE, 2);
        refused(Scenes::tired, t -> t.walks(3), NONE, 3);
        refused(Scenes::tired, t -> t.walks(1), NONE, 2);
    }

    private static void promise11_feigns() {
        refused(Scenes::none, t -> t.feigns(0, 0), NONE, 0);
        refused(Scenes::busy, t -> t.feigns(4, 0), NONE, 0);
        refused(Scenes::busy, t -> t.feigns(-1, 2), NONE, 0);
        refused(Scenes::busy, t -> t.feigns(0, 2), NONE, 1);
        refused(Scenes::busy, t -> t.feigns(3, -1), NONE, 1);
        refused(Scenes::busy, t -> t.feigns(3, 0), NONE, 2);
        refused(Scenes::busy, t -> t.feigns(0, 0), NONE, 2);
        refused(Scenes::poor, t -> t.feigns(0, 0), NONE, 3);
    }

    private static void promise12_leaves() {
        refused(Scenes::none, t -> t.leaves(0), NONE, 0);
        refused(Scenes::busy, t -> t.leaves(4), NONE, 0);
        refused(Scenes::busy, t -> t.leaves(-1), NONE, 0);
        refused(Scenes::poor, t -> t.leaves(2), NONE, 0);
        refused(Scenes::poor, t -> t.leaves(0), NONE, 3);
        refused(Scenes::oneCoin, t -> t.leaves(0), NONE, 3);
    }

    private static void promise13_give() {
        refused(Scenes::none, t -> t.give(1), NONE, 0);
        refused(Scenes::none, t -> t.give(0), NONE, 0);
        refused(Scenes::busy, t -> t.give(0), NONE, 1);
        refused(Scenes::busy, t -> t.give(51), NONE, 1);
        refused(Scenes::busy, t -> t.give(-1), NONE, 1);
        refused(Scenes::busy, t -> t.give(Integer.MAX_VALUE), NONE, 1);
        refused(Scenes::rich, t -> t.give(1), NONE, 1);
    }

    private static void promise14_martinmas() {
        refused(Scenes::none, t -> t.martinmas(1), NONE, 0);
        refused(Scenes::none, t -> t.martinmas(0), NONE, 0);
        refused(Scenes::busy, t -> t.martinmas(0), NONE, 1);
        refused(Scenes::busy, t -> t.martinmas(61), NONE, 1);
        refused(Scenes::busy, t -> t.martinmas(-1), NONE, 1);
        refused(Scenes::late, t -> t.martinmas(2), NONE, 4);
        refused(Scenes::late, t -> t.martinmas(60), NONE, 4);
        refused(Scenes::late, t -> t.martinmas(61), NONE, 1);
    }

    private static void promise15_fate() {
        refused(Scenes::busy, t -> bit(t.fate(-1)), 0);
        refused(Scenes::busy, t -> bit(t.fate(10)), 0);
        refused(Scenes::busy, t -> bit(t.fate(3)), 0);
        refused(Scenes::none, t -> bit(t.fate(1)), 0);
    }

    private static void promise16_years() {
        refused(Scenes::none, t -> t.years(1, 1), NONE);
        refused(Scenes::lawsAlone, t -> t.years(0, 1), NONE);
        refused(Scenes::busy, t -> t.years(0, 1), NONE);
        refused(Scenes::busy, t -> t.years(-1, 1), NONE);
        refused(Scenes::busy, t -> t.years(61, 1), NONE);
        refused(Scenes::late, t -> t.years(2, 1), NONE);
    }

    private static void promise17_status() {
        refused(Scenes::busy, t -> t.status(5), NONE);
        refused(Scenes::busy, t -> t.status(-1), NONE);
    }

    private static void promise18_undo() {
        refused(Scenes::none, HangmanMayor::undo, NONE);
        refused(Scenes::fresh, HangmanMayor::undo, NONE);
        Supplier<HangmanMayor> behindBack = () -> {
            HangmanMayor t = Scenes.busy();
            t.back();
            return t;
        };
        refused(behindBack, HangmanMayor::undo, NONE);
    }

    private static void promise19_log() {
        refused(Scenes::busy, t -> t.log(5, 0), HIDDEN);
        refused(Scenes::busy, t -> t.log(-1, 0), HIDDEN);
        refused(Scenes::busy, t -> t.log(0, 3), HIDDEN);
        refused(Scenes::late, t -> t.log(60, 0), HIDDEN);
    }

    private static void promise20_appeal() {
        refused(Scenes::busy, t -> t.appeal(4), HIDDEN);
        refused(Scenes::busy, t -> t.appeal(-1), HIDDEN);
    }

    private static void promise21_lead() {
        refused(Scenes::busy, t -> t.lead(4), HIDDEN);
        refused(Scenes::busy, t -> t.lead(3), HIDDEN);
        refused(Scenes::busy, t -> t.lead(2), HIDDEN);
    }

    private static void promise22_feigning() {
        refused(Scenes::busy, t -> t.feigning(4), NONE);
        refused(Scenes::busy, t -> t.feigning(3), NONE);
    }

    private static void promise23_tour() {
        refused(Scenes::busy, t -> t.tour(0, 0), NONE);
        refused(Scenes::busy, t -> t.tour(16, 0), NONE);
        refused(Scenes::busy, t -> t.tour(8, 0), NONE);
        refused(Scenes::busy, t -> t.tour(1, 2), NONE);
    }

    private static void promise24_given() {
        refused(Scenes::busy, t -> t.given(1, 0, true), NONE);
        refused(Scenes::busy, t -> t.given(17, 0, true), NONE);
        refused(Scenes::busy, t -> t.given(3, 2, false), NONE);
        refused(Scenes::full, t -> t.given(3, 1, true), NONE);
        refused(Scenes::none, t -> t.given(3, 0, true), NONE);
    }

    private static void promise25_likings() {
        refused(Scenes::busy, t -> t.likings(-2), NONE);
        refused(Scenes::busy, t -> t.likings(1000), NONE);
        refused(Scenes::none, t -> t.likings(NONE), NONE);
    }

    private static void promise26_show() {
        refused(Scenes::lawsAlone, HangmanMayor::show, NONE);
        Supplier<HangmanMayor> nothingFits = () -> {
            HangmanMayor t = Scenes.fresh();
            t.given(3, 0, false);
            return t;
        };
        refused(nothingFits, HangmanMayor::show, NONE);
    }

    private static void promise27_work() {
        refused(Scenes::busy, t -> t.work(2), NONE);
        refused(Scenes::busy, t -> t.work(-1), NONE);
    }

    private static void promise28_game() {
        refused(Scenes::busy, t -> t.game(0, 0, 1, 1, 0), HIDDEN);
        refused(Scenes::busy, t -> t.game(0, 3, 1, 1, 0), HIDDEN);
        refused(Scenes::busy, t -> t.game(0, 1, 4, 1, 0), HIDDEN);
    }

    private static void promise29_rests() {
        refused(Scenes::busy, t -> t.rests(0, 0, NONE), NONE);
        refused(Scenes::busy, t -> t.rests(0, 3, NONE), NONE);
        refused(Scenes::busy, t -> t.rests(0, 1, 16), NONE);
    }

    private static void promise30_odds() {
        refused(Scenes::busy, t -> t.odds(4, 1), NONE);
        refused(Scenes::busy, t -> t.odds(0, 101), NONE);
        refused(Scenes::busy, t -> t.odds(3, 50), 0);
    }

    private static void promise31_first() {
        refused(Scenes::busy, t -> t.first(4), NONE);
        refused(Scenes::deserted, t -> t.first(0), NONE);
    }

    private static void promise32_shares() {
        refused(Scenes::busy, t -> t.shares(4, 1), NONE);
        refused(Scenes::busy, t -> t.shares(0, 1000), NONE);
    }

    private static void promise33_most() {
        refused(Scenes::busy, t -> t.most(12), NONE);
        refused(Scenes::busy, t -> t.most(-1), NONE);
    }

    private static void promise34_image() {
        refused(Scenes::none, HangmanMayor::image, NONE);
        refused(Scenes::lawsAlone, HangmanMayor::image, NONE);
    }

    private static void promise35_back() {
        refused(Scenes::none, HangmanMayor::back, NONE);
        refused(Scenes::tired, HangmanMayor::back, NONE);
    }

    private static void promise36_count() {
        refused(Scenes::busy, t -> t.count(13), HIDDEN);
        refused(Scenes::busy, t -> t.count(-1), HIDDEN);
    }

    /** What is asked apart is asked from as it is now and leaves it so. */
    private static void promise23_whatIsAskedApartChangesNothing() {
        ToIntFunction<HangmanMayor> all = t -> {
            for (int p = 0; p < 3; p++) {
                t.appeal(p);
                t.lead(p);
                t.feigning(p);
                t.odds(p, 37);
                t.first(p);
                t.shares(p, 100);
                t.game(p, (p + 1) % 3, 2, 3, 0);
                t.rests(p, (p + 2) % 3, NONE);
            }
            for (int what = 0; what < 12; what++) {
                t.most(what);
                t.tour(7, what % 2);
                t.work(what % 2);
            }
            t.show();
            return t.likings(NONE) > 0 ? 1 : 0;
        };
        refused(Scenes::busy, all, 1);
    }
}
