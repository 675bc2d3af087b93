import java.util.ArrayList;
import java.util.List;

/** All that can be seen of an object, so that two can be compared. */
final class View {
    private View() {
    }

    /** All but the status; nothing that is called here changes anything. */
    static List<Integer> of(HangmanMayor t) {
        List<Integer> seen = new ArrayList<>();
        for (int i = 0; i < 13; i++) {
            seen.add(t.count(i));
        }
        for (int i = 0; i < 12; i++) {
            seen.add(t.most(i));
        }
        for (int i = 0; i < 4; i++) {
            seen.add(t.rule(i));
        }
        for (int p = 0; p < t.count(0); p++) {
            for (int what = 0; what < 7; what++) {
                seen.add(t.person(p, what));
            }
            seen.add(t.appeal(p));
            seen.add(t.lead(p));
        }
        for (int i = 0; i < 3 * t.count(1); i++) {
            seen.add(t.trouble(i / 3, i % 3));
        }
        for (int i = 0; i < 3 * t.count(11); i++) {
            seen.add(t.log(i / 3, i % 3));
        }
        seen.add(t.likings(HangmanMayor.NONE));
        seen.add(t.show());
        seen.add(t.fault(0));
        seen.add(t.fault(1));
        return seen;
    }

    /** By ways that change both: all acts undone one by one, the image, what the tape becomes, the laws. */
    static void compareToTheGround(HangmanMayor one, HangmanMayor other) {
        Check.due("seen alike", of(one).equals(of(other)), true);
        for (int i = 0; i <= 40; i++) {
            Check.due("undone", one.undo(), other.undo());
            Check.due("seen alike, undone", of(one).equals(of(other)), true);
        }
        Check.due("back", one.back(), other.back());
        Check.due("seen alike, back", of(one).equals(of(other)), true);
        for (int law = 0; law < 4; law++) {
            Check.due("law", one.law(law), other.law(law));
            Check.due("seen alike, by a law", of(one).equals(of(other)), true);
        }
        for (int sort = 1; sort >= 0; sort--) {
            Check.due("text", one.text(sort), other.text(sort));
            Check.due("seen alike, behind a text", of(one).equals(of(other)), true);
        }
    }
}
