/** Promises 6 to 11: what stands, and what is changed by hand. */
public final class StateTest {
    private static final int LOW = Integer.MIN_VALUE;
    private static final int HIGH = Integer.MAX_VALUE;

    public static void main(String[] args) {
        rules();
        wouldSendByKind();
        stations();
        altering();
        giving();
        posting();
        changing();
        changedWithAllOfThem();
        Check.close("StateTest");
    }

    private static void rules() {
        RingWord x = Check.told("plain 6 2 1 3;meek 3 2 0 2;greedy 4 1 9 1;word 1;");
        int[] now = {3, 1, 0, 0, 0, 0, 13, 1};
        for (int what = 0; what < now.length; what++) {
            Check.due("rule(" + what + ")", x.rule(what), now[what]);
        }
        Check.due("rule(8)", x.rule(8), -1);
        Check.due("rule(-1)", x.rule(-1), -1);
        Check.due("rule(low)", x.rule(LOW), -1);
        Check.due("rule(high)", x.rule(HIGH), -1);
        // 1 is sent by the meek one, 2 by the greedy one, TIME 3, 6; then 2 more, TIME 11: 10 come, none is lost.
        Check.due("visits(3)", x.visits(3), 5);
        int[] then = {3, 1, 11, 3, 5, 0, 18, 1};
        for (int what = 0; what < then.length; what++) {
            Check.due("behind 3: rule(" + what + ")", x.rule(what), then[what]);
        }
        x.post(2, 99);
        Check.due("lost by hand", x.rule(5), 11);
    }

    private static void wouldSend(String text, int want) {
        Check.due("\"" + text + "\" would send", Check.told(text).rule(7), want);
    }

    private static void wouldSendByKind() {
        wouldSend("plain 9 4 0 1;", 4);
        wouldSend("plain 4 4 0 1;", 4);
        wouldSend("plain 3 4 0 1;", 3);
        wouldSend("plain 0 4 0 1;", 0);
        wouldSend("plain 9 4 0 1;plain 99 1 0 1;", 4);
        wouldSend("greedy 9 4 0 1;", 8);
        wouldSend("greedy 7 4 0 1;", 7);
        wouldSend("greedy 99 9 0 1;", 18);
        wouldSend("greedy 9 4 0 1;plain 99 1 0 1;", 8);
        wouldSend("meek 9 4 0 1;", 4);
        wouldSend("meek 9 4 0 1;plain 9 1 0 1;", 4);
        wouldSend("meek 9 4 0 1;plain 10 1 0 1;", 3);
        wouldSend("plain 10 1 0 1;meek 9 4 0 1;word 1;", 3);
        wouldSend("meek 9 4 0 1;plain 8 1 0 1;plain 0 1 0 1;fair 10 1 0 1;", 3);
        wouldSend("meek 9 1 0 1;plain 10 1 0 1;", 0);
        wouldSend("meek 9 4 0 1;plain 8 1 0 1;plain 0 1 0 1;fair 9 1 0 1;greedy 7 1 0 1;", 4);
        wouldSend("meek 3 4 0 1;plain 10 1 0 1;", 2);
        wouldSend("meek 1 4 0 1;plain 10 1 0 1;", 0);
        wouldSend("meek 0 4 0 1;plain 10 1 0 1;", 0);
        wouldSend("fair 9 4 0 1;", 4);
        wouldSend("fair 9 4 0 1;plain 10 1 0 1;", 3);
        wouldSend("fair 0 4 0 1;plain 10 1 0 1;", 0);
        RingWord x = Check.told("fair 9 4 0 1;");
        x.visits(1);
        Check.due("a fair one that is tired", x.rule(7), 0);
        int[] untouched = {4, 5, 4};
        for (int kind = 0; kind < untouched.length; kind++) {
            x.alter(0, 0, kind);
            Check.due("tired, but of kind " + kind, x.rule(7), untouched[kind]);
        }
    }

    private static void stations() {
        RingWord x = Check.told("fair 9 4 3 2;greedy 8 3 0 1;");
        x.visits(1);
        int[][] rows = {{3, 5, 4, 3, 2, 4, 1}, {1, 8, 3, 0, 1, 0, 0}};
        for (int i = 0; i < 2; i++) {
            for (int what = 0; what <= 6; what++) {
                Check.due("station(" + i + ", " + what + ")", x.station(i, what), rows[i][what]);
            }
        }
        int[][] wrong = {{-1, 0}, {2, 0}, {4, 0}, {5, 0}, {LOW, 0}, {HIGH, 0}, {0, -1}, {0, 7}, {0, LOW}, {0, HIGH}};
        for (int[] w : wrong) {
            Check.due("station(" + w[0] + ", " + w[1] + ")", x.station(w[0], w[1]), -1);
        }
    }

    private static void altering() {
        RingWord x = Check.told("plain 5 5 5 5;meek 6 6 6 6;");
        int[] least = {0, 0, 1, 0, 1};
        int[] most = {3, 99, 9, 9, 9};
        int[] was = {2, 6, 6, 6, 6};
        for (int what = 0; what <= 4; what++) {
            Check.due("alter " + what + " below", x.alter(1, what, least[what] - 1), -1);
            Check.due("alter " + what + " above", x.alter(1, what, most[what] + 1), -1);
            Check.due("alter " + what + " far below", x.alter(1, what, LOW), -1);
            Check.due("alter " + what + " far above", x.alter(1, what, HIGH), -1);
            Check.due("alter " + what + " refused", x.station(1, what), was[what]);
            Check.due("alter " + what + " least", x.alter(1, what, least[what]), was[what]);
            Check.due("alter " + what + " is least", x.station(1, what), least[what]);
            Check.due("alter " + what + " most", x.alter(1, what, most[what]), least[what]);
            Check.due("alter " + what + " is most", x.station(1, what), most[what]);
        }
        Check.due("alter(1, 5, 1)", x.alter(1, 5, 1), -1);
        Check.due("alter(1, 6, 1)", x.alter(1, 6, 1), -1);
        Check.due("alter(1, -1, 1)", x.alter(1, -1, 1), -1);
        Check.due("alter(1, low, 1)", x.alter(1, LOW, 1), -1);
        Check.due("alter(2, 1, 1)", x.alter(2, 1, 1), -1);
        Check.due("alter(-1, 1, 1)", x.alter(-1, 1, 1), -1);
        for (int what = 1; what <= 4; what++) {
            Check.due("the other one stays, " + what, x.station(0, what), 5);
        }
        Check.due("its own sent stays", x.station(1, 5), 0);
        Check.due("no time goes", x.rule(2), 0);
    }

    private static void giving() {
        RingWord x = Check.told("plain 5 5 5 5;meek 6 6 6 6;fair 7 1 1 1;");
        Check.due("give(2)", x.give(2), 0);
        Check.due("it has the word", x.rule(1), 2);
        Check.due("give(2) again", x.give(2), 2);
        Check.due("give(3)", x.give(3), -1);
        Check.due("give(-1)", x.give(-1), -1);
        Check.due("give(high)", x.give(HIGH), -1);
        Check.due("refused", x.rule(1), 2);
        Check.due("give(1)", x.give(1), 2);
        Check.due("no visit is made", x.rule(3), 0);
        x.visits(1);
        Check.due("it goes on from there", x.rule(1), 2);
    }

    private static void posting() {
        RingWord x = Check.told("plain 5 5 5 5;meek 90 6 6 6;");
        Check.due("post(0, 0)", x.post(0, 0), 0);
        Check.due("post(0, 7)", x.post(0, 7), 0);
        Check.due("queue", x.station(0, 1), 12);
        Check.due("post(1, 9)", x.post(1, 9), 0);
        Check.due("full", x.station(1, 1), 99);
        Check.due("none is lost", x.rule(5), 0);
        Check.due("post(1, 1)", x.post(1, 1), 1);
        Check.due("post(1, 99)", x.post(1, 99), 99);
        Check.due("lost", x.rule(5), 100);
        Check.due("post(0, 90)", x.post(0, 90), 3);
        Check.due("lost, of both", x.rule(5), 103);
        int[][] wrong = {{0, -1}, {0, 100}, {0, LOW}, {0, HIGH}, {2, 1}, {-1, 1}, {LOW, 1}, {HIGH, 1}};
        for (int[] w : wrong) {
            Check.due("post(" + w[0] + ", " + w[1] + ")", x.post(w[0], w[1]), -1);
        }
        Check.due("refused", x.rule(5), 103);
        Check.due("no time goes", x.rule(2), 0);
        Check.due("none is sent", x.rule(4), 0);
    }

    private static void changing() {
        RingWord x = Check.told("plain 5 5 5 5;meek 6 6 6 6;fair 7 1 1 1;word 1;");
        int[][] wrong = {{0, 0}, {1, 1}, {0, 3}, {3, 0}, {-1, 0}, {0, -1}, {3, 3}, {LOW, HIGH}};
        for (int[] w : wrong) {
            Check.due("change(" + w[0] + ", " + w[1] + ")", x.change(w[0], w[1]), -1);
        }
        Check.due("change(0, 2)", x.change(0, 2), 3);
        Check.due("first", x.station(0, 1), 7);
        Check.due("third", x.station(2, 1), 5);
        Check.due("second stays", x.station(1, 1), 6);
        Check.due("change(2, 1)", x.change(2, 1), 3);
        Check.due("second", x.station(1, 1), 5);
        Check.due("the word stays at its place", x.rule(1), 1);
    }

    private static void changedWithAllOfThem() {
        RingWord x = Check.told("fair 50 4 3 2;greedy 8 3 0 1;");
        x.visits(1);
        x.change(1, 0);
        int[][] rows = {{1, 8, 3, 0, 1, 0, 0}, {3, 46, 4, 3, 2, 4, 1}};
        for (int i = 0; i < 2; i++) {
            for (int what = 0; what <= 6; what++) {
                Check.due("changed: station(" + i + ", " + what + ")", x.station(i, what), rows[i][what]);
            }
        }
        Check.due("the word is at the tired one", x.rule(1), 1);
        Check.due("which sends none", x.rule(7), 0);
        x.alter(0, 1, 20);
        Check.due("one alone is altered", x.station(1, 1), 46);
    }
}
