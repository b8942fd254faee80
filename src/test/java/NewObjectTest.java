/** Promise 1, and what the calls answer while there are no stations. */
public final class NewObjectTest {
    public static void main(String[] args) {
        constants();
        nothingThere();
        callsOnNoStations();
        sheetsOfNothing();
        emptyTextMakesItNewAgain();
        objectsAreApart();
        Check.close("NewObjectTest");
    }

    private static void constants() {
        Check.due("BAD", RingWord.BAD, -1);
        Check.due("STATE", RingWord.STATE, -2);
        Check.due("FULL", RingWord.FULL, -3);
        Check.due("NONE", RingWord.NONE, -4);
    }

    private static void nothingThere() {
        RingWord x = new RingWord();
        int[] rules = {0, -4, 0, 0, 0, 0, 0, 0};
        for (int what = 0; what < rules.length; what++) {
            Check.due("new: rule(" + what + ")", x.rule(what), rules[what]);
        }
        int[] counts = {0, 0, 0, -4, 0, 0};
        for (int what = 0; what < counts.length; what++) {
            Check.due("new: count(" + what + ")", x.count(what), counts[what]);
        }
        Check.due("new: fault()", x.fault(), 0);
        Check.due("new: torn()", x.torn(), 0);
        Check.due("new: station(0, 0)", x.station(0, 0), -1);
        Check.due("new: back(0)", x.back(0), -2);
        Check.due("new: back(1)", x.back(1), -2);
    }

    private static void callsOnNoStations() {
        RingWord x = new RingWord();
        Check.due("none: alter", x.alter(0, 1, 1), -1);
        Check.due("none: give", x.give(0), -1);
        Check.due("none: post", x.post(0, 0), -1);
        Check.due("none: change", x.change(0, 1), -1);
        for (int what = 0; what <= 3; what++) {
            Check.due("none: runs(200, " + what + ")", x.runs(200, what), 0);
        }
        Check.due("none: ahead", x.ahead(0, 0, 0), -1);
        Check.due("none: when", x.when(0), -1);
        Check.due("none: kind", x.kind(0, 0, 0), -1);
        Check.due("none: hold", x.hold(0, 0, 0), -1);
        Check.due("none: swap", x.swap(5, 0), -4);
        Check.due("none: swap, how many", x.swap(5, 1), -4);
        Check.due("none: pass", x.pass(5, 0), -4);
        Check.due("none: pass, how many", x.pass(5, 1), -4);
        Check.due("none: begin", x.begin(5, 0), -4);
        Check.due("none: begin, how much", x.begin(5, 1), -4);
        Check.due("none: luck", x.luck(5, 0, 1, 1, 0), -1);
        Check.due("none: mean", x.mean(5, 8, 0), 0);
        Check.due("none: mean, by", x.mean(5, 8, 1), 1);
        Check.due("none: see", x.see(0, 0, 0), -1);
        Check.due("none: kinds", x.kinds(0), -1);
        Check.due("none: gains", x.gains(0), -1);
        Check.due("none: ask", x.ask(0, 0), -1);
        Check.due("none: drift", x.drift(1, 1, 0), -2);
        Check.due("none: visits", x.visits(7), 0);
        Check.due("none: visits are made", x.rule(3), 7);
        Check.due("none: no time goes", x.rule(2), 0);
        Check.due("none: the word is at none", x.rule(1), -4);
    }

    private static void sheetsOfNothing() {
        RingWord x = new RingWord();
        for (int k = 0; k < 4; k++) {
            Check.due("new: lay(" + k + ", 0, 0)", x.lay(k, 0, 0), -11);
        }
    }

    private static void emptyTextMakesItNewAgain() {
        RingWord x = Check.told("plain 5 1 1 1;");
        x.visits(3);
        Check.due("empty text()", x.text(), 0);
        Check.due("empty text: no stations", x.rule(0), 0);
        Check.due("empty text: the word is at none", x.rule(1), -4);
        Check.due("empty text: visits", x.rule(3), 0);
    }

    private static void objectsAreApart() {
        RingWord x = Check.told("plain 5 1 1 1;");
        x.sheet(0, 0, 3);
        x.keep(0);
        RingWord y = new RingWord();
        Check.due("another: stations", y.rule(0), 0);
        Check.due("another: sheet 0", y.count(3), -4);
        Check.due("another: images", y.count(1), 0);
        Check.due("first: stations", x.rule(0), 1);
    }
}
