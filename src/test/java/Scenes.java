/** Towns in the midst of things, each call a new one that is just like the one ahead. */
final class Scenes {
    private Scenes() {
    }

    static HangmanMayor none() {
        return new HangmanMayor();
    }

    /** No town yet, but a tape and laws, one of which holds. */
    static HangmanMayor lawsAlone() {
        HangmanMayor t = new HangmanMayor();
        Check.rule(t, "y:c");
        Check.rule(t, "y:k");
        t.fate(0);
        Check.feed(t, "p;pc9");
        return t;
    }

    static HangmanMayor fresh() {
        return Check.town("ps3;ps7;t");
    }

    /** All of it: laws, years, some away, met, feigning, an image, acts, what is given, refusals, bytes on the tape. */
    static HangmanMayor busy() {
        HangmanMayor t = Check.town("sm60c2;pc3k5v1s2;pc5k2v7s5;pv9s9;ps20k0;tg4;tw1n9g2");
        String[] laws = {"y:c", "y:c+k-v+m", "y:h", "y:0-y"};
        for (String law : laws) {
            Check.rule(t, law);
        }
        t.law(1);
        t.fate(3);
        t.years(5, 42);
        for (int p = 0; p < 4; p++) {
            if (t.person(p, 5) != (p == 3 ? 1 : 0)) {
                t.leaves(p);
            }
        }
        t.walks(6);
        Check.times(3, () -> t.feigns(0, 0));
        t.feigns(1, 1);
        t.image();
        t.walks(4);
        t.give(2);
        t.feigns(0, 1);
        t.given(3, 0, true);
        t.given(7, 1, false);
        t.walks(99);
        t.walks(4);
        t.leaves(9);
        Check.feed(t, "p;p;s");
        return t;
    }

    /** No coin is left. */
    static HangmanMayor poor() {
        HangmanMayor t = Check.town("sm1;ps3;ps7;t");
        t.feigns(1, 1);
        return t;
    }

    static HangmanMayor oneCoin() {
        return Check.town("sm1;ps3;ps7;t");
    }

    /** All forty steps are gone, or would be by one more. */
    static HangmanMayor tired() {
        HangmanMayor t = Check.town("ps3;ps7;t");
        t.walks(20);
        t.walks(1);
        return t;
    }

    static HangmanMayor rich() {
        HangmanMayor t = Check.town("sm99;ps3;ps7;t");
        Check.times(18, () -> t.give(50));
        return t;
    }

    /** The year is 998, all that was logged and undone has gone round. */
    static HangmanMayor late() {
        HangmanMayor t = Check.town("ps3;ps7v9;t");
        Check.times(16, () -> t.martinmas(60));
        t.image();
        t.walks(4);
        t.martinmas(38);
        return t;
    }

    /** Everybody is away. */
    static HangmanMayor deserted() {
        HangmanMayor t = Check.town("ps3;ps7;t");
        t.walks(9);
        t.leaves(0);
        t.leaves(1);
        return t;
    }

    /** Four laws and ten given. */
    static HangmanMayor full() {
        HangmanMayor t = Scenes.busy();
        Check.times(8, () -> t.given(3, 0, true));
        t.end(0);
        Check.feed(t, "y:9");
        return t;
    }
}
