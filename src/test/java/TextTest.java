/** Promises 1 to 5: a new object, feed, end, fault, text. */
public final class TextTest {
    public static void main(String[] args) {
        newObject();
        feed();
        feedAtTheLimit();
        end();
        townFaults();
        townEdges();
        lawFaults();
        lawDepth();
        townText();
        lawText();
        Check.finish();
    }

    private static void newObject() {
        HangmanMayor t = new HangmanMayor();
        int[] counts = {0, 0, 0, 0, -1, 0, 0, 0, 0, 1, 0, 0, 0};
        for (int i = 0; i < counts.length; i++) {
            Check.due("new: count(" + i + ")", t.count(i), counts[i]);
        }
        Check.due("new: count(13)", t.count(13), HangmanMayor.HIDDEN);
        Check.due("new: count(-1)", t.count(-1), HangmanMayor.HIDDEN);
        Check.due("new: person", Check.person(t, 0, 0), Check.MISSING);
        for (int i = 0; i < 5; i++) {
            Check.due("new: status", t.status(i), 0);
        }
        for (int i = 0; i < 12; i++) {
            Check.due("new: most", t.most(i), -1);
        }
        Check.due("NONE", HangmanMayor.NONE, -1);
        Check.due("HIDDEN", HangmanMayor.HIDDEN, -1000000);
    }

    private static void feed() {
        HangmanMayor t = new HangmanMayor();
        Check.due("nothing", t.feed(0, 0, 0, 0, 0), 0);
        Check.due("p;p, zeros left out", t.feed(0x70003b00, 0, 0x00000070, 0, 0), 3);
        Check.due("read in order", t.text(0), 2);
        for (int i = 1; i <= 11; i++) {
            Check.due("twenty more", t.feed(-1, -1, -1, -1, -1), 20 * i);
        }
        Check.due("to 239", t.feed(-1, -1, -1, -1, 0x01010100), 239);
        Check.due("two too many", t.feed(0x01010000, 0, 0, 0, 0), -1);
        Check.due("nothing came", t.count(3), 239);
        Check.due("none more is no harm", t.feed(0, 0, 0, 0, 0), 239);
        Check.due("the 240th", t.feed(0, 0, 0, 0, 1), 240);
        Check.due("the 241st", t.feed(1 << 24, 0, 0, 0, 0), -1);
        Check.due("full", t.feed(0, 0, 0, 0, 0), 240);
    }

    /** Whichever byte of whichever number it is, it counts; and does not, if it is 0. */
    private static void feedAtTheLimit() {
        for (int left = 0; left < 20; left++) {
            for (int bits = 0; bits < 20; bits++) {
                int[] n = new int[5];
                for (int i = 0; i < 20; i++) {
                    n[i / 4] |= i == bits || i % 7 == left % 7 ? 64 + i << 8 * (i % 4) : 0;
                }
                int more = 0;
                for (int i = 0; i < 20; i++) {
                    more += i == bits || i % 7 == left % 7 ? 1 : 0;
                }
                HangmanMayor t = new HangmanMayor();
                Check.feed(t, "x".repeat(240 - left));
                Check.due("more " + more + " of " + left, t.feed(n[0], n[1], n[2], n[3], n[4]), more > left ? -1 : 240 - left + more);
            }
        }
    }

    private static void end() {
        HangmanMayor t = new HangmanMayor();
        Check.due("of none", t.end(0), true);
        Check.due("of none, 1", t.end(1), false);
        Check.feed(t, "p;px");
        Check.due("fault ahead", t.fault(0), 3);
        Check.due("too far", t.end(5), false);
        Check.due("below", t.end(-1), false);
        Check.due("all", t.end(4), true);
        Check.due("three", t.end(3), true);
        Check.due("bytes", t.count(3), 3);
        Check.due("no fault then", t.fault(0), -1);
        Check.due("gone", t.end(4), false);
    }

    private static void town(String text, int fault) {
        Check.due("fault(0) of '" + text + "'", Check.fault(0, text), fault);
    }

    private static void law(String text, int fault) {
        Check.due("fault(1) of '" + text + "'", Check.fault(1, text), fault);
    }

    private static void townFaults() {
        town("", 0);
        town("   ", 3);
        town("p", 1);
        town("p ", 2);
        town("p;", 2);
        town("p;p", -1);
        town(" p ; p ", -1);
        town("p;p;", 4);
        town("p;;p", 2);
        town(";p;p", 0);
        town("s;p;p;t", -1);
        town("t;p;s;p", -1);
        town("s;p;p;s", 6);
        town("s;t;t", 5);
        town("p;p;p;p;p;p", -1);
        town("p;p;p;p;p;p;p", 12);
        town("t;t;t;t;t;p;p", -1);
        town("t;t;t;t;t;t", 10);
        town("pc;p", 2);
        town("pc", 2);
        town("pcc1;p", 2);
        town("pc1 c2;p", 4);
        town("pc1k1v1s1;p", -1);
        town("pc1k1v1s1c1;p", 9);
        town("pm1;p", 1);
        town("ss1;p;p", 1);
        town("tc1;p;p", 1);
        town("p;p;P", 4);
        town("p,p", 1);
        town("p;p\u00e9", 3);
    }

    private static void townEdges() {
        town("pc9k9v9s20;p", -1);
        town("pc10;p", 3);
        town("pk10;p", 3);
        town("pv10;p", 3);
        town("sk10;p;p", 3);
        town("sv10;p;p", 3);
        town("sm0c0k0v0;pc0k0v0s0;p;tw0n0", -1);
        town("ps21;p", 3);
        town("ps20;ps9", -1);
        town("sc9k9v9m99;p;p", -1);
        town("sm100;p;p", 4);
        town("sc100;p;p", 4);
        town("sc10", 3);
        town("sc1 0;p;p", 4);
        town("sc01;p;p", -1);
        town("sc00;p;p", -1);
        town("sc001;p;p", 4);
        town("tw2n9g9;p;p", -1);
        town("tw3;p;p", 2);
        town("tw03;p;p", 3);
        town("tg1;p;p", -1);
        town("tg0;p;p", 2);
        town("tg01;p;p", -1);
        town("tg00;p;p", 3);
        town("tg000;p;p", 4);
        town("tg10;p;p", 3);
        town("tn10;p;p", 3);
        town("p c 1 ; p k 12", 13);
        town("p;p" + " ".repeat(237), -1);
        town("p;p" + " ".repeat(236) + ";", 240);
        town(" ".repeat(237) + "p;p", -1);
        town("p;pc", 4);
    }

    private static void lawFaults() {
        law("", 0);
        law(" ", 1);
        law("y", 1);
        law("y:", 2);
        law("y:c", -1);
        law(" y : c ", -1);
        law("c", 0);
        law("y:c;", 4);
        law("y:c;y:k", -1);
        law("y:c;k", 4);
        law("y:c?1", 3);
        law("y:c=1", 5);
        law("y:c=1?", 6);
        law("y:c=1?2", -1);
        law("y:c=1;y:2", 5);
        law("y:c=1=2?3", 5);
        law("y:c=k?2=3", 7);
        law("y:c<1&k>2|v=3?1", -1);
        law("y:c<1&?1", 6);
        law("y:c&1", 3);
        law("y:!c=1?2", -1);
        law("y:!c?2", 4);
        law("y:(c=1)?2", -1);
        law("y:(c=1?2", 6);
        law("y:(c)", 4);
        law("y:(c=1)", 7);
        law("y:(c=1)+2", 7);
        law("y:(c=1)=1?2", 7);
        law("y:c=1?(2)", 6);
        law("y:c=!1?2", 4);
        law("y:[c+1]*[k-2]/3", -1);
        law("y:[c=1]?2", 4);
        law("y:[c]=1&![k]=2?[3]", -1);
        law("y:[c", 4);
        law("y:c]", 3);
        law("y:-1", 2);
        law("y:c+-1", 4);
        law("y:c k", 4);
        law("y:ck", 3);
        law("y:s", 2);
        law("y:9999", -1);
        law("y:12345", 6);
        law("y:00001", 6);
        law("y:1 2", 4);
        law("y:1 + 2 * y", -1);
        law("Y:c", 0);
        law("y:c?", 3);
        law("y::c", 2);
        law("y:1" + "+1".repeat(118), -1);
        law("y:1" + "+1".repeat(118) + "*", 240);
        law("y:" + "!c=1&".repeat(47) + "k", 238);
        law("y:1;".repeat(59) + "y:1", -1);
    }

    private static void lawDepth() {
        law("y:((((((c=1))))))?2", -1);
        law("y:(((((((c=1)))))))?2", 8);
        law("y:!!!!!!c=1?2", -1);
        law("y:!!!!!!!c=1?2", 8);
        law("y:[[[[[[c]]]]]]", -1);
        law("y:[[[[[[[c]]]]]]]", 8);
        law("y:!(!([[c]]=1))?2", -1);
        law("y:!(!([[[c]]]=1))?2", 8);
        law("y:!!!!!!c=[1]?2", 10);
        law("y:!!!c=1&!!!!!!k=2|(((((([1]=1))))))?1", 25);
        law("y:!c=1&!c=2&!c=3&!c=4&!c=5&!c=6&!c=7&!c=8?[[[[[[1]]]]]]", -1);
    }

    private static void townText() {
        HangmanMayor t = new HangmanMayor();
        Check.feed(t, "p");
        Check.due("a fault", t.text(0), -1);
        Check.due("the tape stays", t.count(3), 1);
        Check.due("no such sort", t.text(2), -1);
        Check.due("no such sort below", t.text(-1), -1);
        Check.due("no such fault", t.fault(2), -2);
        Check.due("no such fault below", t.fault(-1), -2);
        Check.feed(t, ";p;p;tw1n7;sm50");
        Check.due("three persons", t.text(0), 3);
        Check.due("the tape is empty", t.count(3), 0);
        Check.due("persons", t.count(0), 3);
        Check.due("troubles", t.count(1), 1);
        Check.due("a faulty one leaves the town", t.text(0), -1);
        Check.due("still three", t.count(0), 3);
        anotherTown(t);
    }

    /** All of the former town goes but laws, which holds, fate and status. */
    private static void anotherTown(HangmanMayor t) {
        Check.rule(t, "y:7");
        t.fate(5);
        t.walks(9);
        t.walks(99);
        t.image();
        t.given(3, 0, true);
        t.martinmas(2);
        t.leaves(0);
        t.walks(4);
        Check.tell(t, "p;p");
        int[] counts = {2, 0, 1, 0, 0, 0, 0, 0, 0, 5, 0, 0, 0};
        for (int i = 0; i < counts.length; i++) {
            Check.due("another town: count(" + i + ")", t.count(i), counts[i]);
        }
        Check.due("its law", t.appeal(0), 7);
        Check.due("status stays", t.status(1), 1);
        Check.due("no image of it", t.back(), -1);
        Check.due("nothing to undo", t.undo(), -1);
        Check.due("nobody away", t.most(8), 0);
        Check.due("nobody met", t.most(7), 0);
        Check.due("nobody chained", t.most(10) + t.most(11), 0);
        Check.due("all likings fit", t.likings(-1), 1000);
        Check.due("coins without", t.rule(3), 20);
        Check.due("log", t.log(0, 0), HangmanMayor.HIDDEN);
    }

    private static void lawText() {
        HangmanMayor t = new HangmanMayor();
        for (int i = 0; i < 4; i++) {
            Check.feed(t, "y:" + i);
            Check.due("law " + i, t.text(1), i);
            Check.due("laws", t.count(2), i + 1);
            Check.due("the tape is empty", t.count(3), 0);
        }
        Check.feed(t, "y:4");
        Check.due("a fifth has no fault", t.fault(1), -1);
        Check.due("but is none", t.text(1), -1);
        Check.due("the tape stays", t.count(3), 3);
        Check.due("none holds by itself", t.count(4), -1);
        Check.due("as a town", t.text(0), -1);
    }
}
