/** Promises 12 to 15: visits made, and what would be by visits. */
public final class VisitsTest {
    private static final String TWO = "plain 6 2 1 3;meek 3 2 0 2;";
    private static final String FULL_RING = "greedy 99 9 9 9;greedy 99 9 9 9;greedy 99 9 9 9;greedy 99 9 9 9;greedy 99 9 9 9;";

    public static void main(String[] args) {
        visitByVisit();
        lettersComeAtTens();
        tiredByTurns();
        roundTheRing();
        wrongOrTooMany();
        lostIsCut();
        runsUncut();
        runsChangesNothing();
        aheadOfOne();
        whenEmpty();
        Check.close("VisitsTest");
    }

    private static void visitByVisit() {
        RingWord x = Check.told(TWO);
        // The meek one sends 1 fewer while the first queue is longer: in the sixth visit none of its 1.
        int[] sent = {2, 1, 2, 1, 2, 0, 2};
        int[] time = {5, 8, 13, 16, 21, 23, 28};
        int[] first = {4, 4, 3, 3, 2, 2, 0};
        int[] second = {3, 2, 2, 1, 1, 1, 1};
        for (int j = 0; j < sent.length; j++) {
            Check.due("visit " + j, x.visits(1), sent[j]);
            Check.due("TIME behind visit " + j, x.rule(2), time[j]);
            Check.due("first queue behind visit " + j, x.station(0, 1), first[j]);
            Check.due("second queue behind visit " + j, x.station(1, 1), second[j]);
            Check.due("VISITS behind visit " + j, x.rule(3), j + 1);
            Check.due("the word behind visit " + j, x.rule(1), (j + 1) % 2);
        }
        Check.due("SENT", x.rule(4), 10);
        Check.due("the first has sent", x.station(0, 5), 8);
        Check.due("the second has sent", x.station(1, 5), 2);
    }

    private static void lettersComeAtTens() {
        RingWord x = Check.told("plain 9 1 3 9;");
        x.visits(1);
        Check.due("TIME 0 to 10: once", x.station(0, 1), 11);
        x.visits(1);
        Check.due("TIME 10 to 20: once", x.station(0, 1), 13);
        x.alter(0, 1, 0);
        x.visits(1);
        Check.due("TIME 20 to 29: not", x.station(0, 1), 0);
        x.visits(1);
        Check.due("TIME 29 to 38: once", x.station(0, 1), 3);
        RingWord y = Check.told("greedy 99 9 9 9;plain 97 1 2 1;");
        y.visits(1);
        Check.due("TIME 0 to 27: twice, to the first", y.station(0, 1), 99);
        Check.due("TIME 0 to 27: twice, to the second", y.station(1, 1), 99);
        Check.due("two are lost", y.rule(5), 2);
        y.give(0);
        Check.due("greedy again", y.visits(1), 18);
        Check.due("TIME 27 to 54: three times", y.rule(5), 2 + 9 + 6);
    }

    private static void tiredByTurns() {
        RingWord x = Check.told("fair 9 3 0 5;");
        int[] sent = {3, 0, 3, 0, 3, 0, 0};
        int[] time = {8, 13, 21, 26, 34, 39, 44};
        for (int j = 0; j < sent.length; j++) {
            Check.due("fair, visit " + j, x.visits(1), sent[j]);
            Check.due("fair, TIME behind visit " + j, x.rule(2), time[j]);
            Check.due("fair, tired behind visit " + j, x.station(0, 6), sent[j] > 0 ? 1 : 0);
        }
        for (int kind = 0; kind <= 2; kind++) {
            RingWord y = Check.told("fair 2 2 0 1;");
            y.alter(0, 0, kind);
            y.visits(1);
            Check.due("kind " + kind + " is tired by sending", y.station(0, 6), 1);
            y.visits(1);
            Check.due("kind " + kind + " is not by none", y.station(0, 6), 0);
        }
        RingWord z = Check.told("meek 1 1 0 1;plain 2 1 0 1;");
        z.visits(1);
        Check.due("a meek one that sends none is not tired", z.station(0, 6), 0);
    }

    private static void roundTheRing() {
        RingWord x = Check.told("plain 9 1 0 1;plain 9 2 0 2;plain 9 3 0 3;plain 9 4 0 4;plain 9 5 0 5;word 3;");
        int[] places = {4, 0, 1, 2, 3};
        for (int place : places) {
            x.visits(1);
            Check.due("the word is at", x.rule(1), place);
        }
        Check.due("SENT in a round", x.rule(4), 15);
        Check.due("TIME of a round", x.rule(2), 30);
        for (int i = 0; i < 5; i++) {
            Check.due("each its own", x.station(i, 5), i + 1);
        }
        Check.due("two rounds at once", x.visits(10), 1 + 2 + 3 + 4 + 4 + 1 + 2 + 3 + 1);
    }

    private static void wrongOrTooMany() {
        RingWord x = new RingWord();
        Check.due("visits(-1)", x.visits(-1), -1);
        Check.due("visits(101)", x.visits(101), -1);
        Check.due("visits(lowest)", x.visits(Integer.MIN_VALUE), -1);
        Check.due("visits(highest)", x.visits(Integer.MAX_VALUE), -1);
        Check.due("visits(0)", x.visits(0), 0);
        Check.due("none made", x.rule(3), 0);
        for (int j = 0; j < 99; j++) {
            x.visits(100);
        }
        Check.due("made", x.rule(3), 9900);
        Check.due("visits(100)", x.visits(100), -3);
        Check.due("visits(101), still", x.visits(101), -1);
        Check.due("refused", x.rule(3), 9900);
        Check.due("visits(99)", x.visits(99), 0);
        Check.due("made all", x.rule(3), 9999);
        Check.due("visits(1)", x.visits(1), -3);
        Check.due("visits(0), still", x.visits(0), 0);
        Check.due("BY VISITS is not full", x.runs(200, 0), 0);
    }

    private static void lostIsCut() {
        RingWord x = Check.told(FULL_RING);
        for (int j = 0; j < 96; j++) {
            x.visits(100);
        }
        int before = x.rule(5);
        Check.holds("not there yet", before < 999999 && before > 980000);
        x.visits(100);
        x.visits(100);
        x.visits(100);
        Check.due("LOST is cut", x.rule(5), 999999);
        // In ten visits TIME is 270 more, 27 times 45 come, 180 go: so much is lost, queues being as before.
        Check.due("runs: uncut", x.runs(100, 2), 10 * (27 * 45 - 180));
        Check.holds("hold: uncut", x.hold(0, 100, 1) > 0);
        x.alter(0, 1, 99);
        Check.due("post: all are lost", x.post(0, 99), 99);
        Check.due("LOST stays cut", x.rule(5), 999999);
        Check.due("TIME", x.rule(2), 9900 * 27);
        Check.due("SENT", x.rule(4), 9900 * 18);
        x.sheet(0, 2, 2);
        x.lay(0, 1, 99);
        x.read(0, 2, 0, 1);
        Check.due("LOST stays cut by a sheet", x.rule(5), 999999);
        x.keep(0);
        x.back(0);
        Check.due("LOST of the image", x.rule(5), 999999);
    }

    private static void runsUncut() {
        RingWord x = Check.told(TWO);
        int[][] due = {{0, 0, 0, 9}, {2, 5, 0, 7}, {3, 8, 0, 6}, {5, 13, 0, 5}, {6, 16, 0, 4}};
        for (int n = 0; n < due.length; n++) {
            for (int what = 0; what <= 3; what++) {
                Check.due("runs(" + n + ", " + what + ")", x.runs(n, what), due[n][what]);
            }
        }
        x.visits(2);
        x.post(1, 99);
        Check.due("counted from now: sent", x.runs(2, 0), 4);
        Check.due("counted from now: time", x.runs(2, 1), 9);
        Check.due("counted from now: lost", x.runs(2, 2), 0);
        Check.due("counted from now: queues", x.runs(2, 3), 3 + 97);
        RingWord y = Check.told("greedy 99 9 9 9;");
        Check.due("lost in two", y.runs(2, 2), 9);
        Check.due("runs(200, 1)", y.runs(200, 1), 5400);
        Check.due("runs(201, 0)", y.runs(201, 0), -1);
        Check.due("runs(-1, 0)", y.runs(-1, 0), -1);
        Check.due("runs(1, 4)", y.runs(1, 4), -1);
        Check.due("runs(1, -1)", y.runs(1, -1), -1);
    }

    private static void runsChangesNothing() {
        RingWord x = Check.told("fair 6 2 1 3;meek 3 2 9 2;greedy 90 9 9 9;");
        x.visits(4);
        x.see(1, 1, 5);
        String before = Check.state(x);
        x.runs(200, 2);
        x.ahead(1, 200, 2);
        x.when(2);
        x.kind(0, 200, 0);
        x.hold(1, 200, 1);
        x.swap(200, 0);
        x.pass(200, 0);
        x.begin(200, 0);
        x.luck(3, 1, 8, 50, 0);
        x.mean(3, 8, 0);
        x.kinds(0);
        x.gains(1);
        x.ask(1, 0);
        x.drift(99, 200, 0);
        Check.holds("what is tried changes nothing", before.equals(Check.state(x)));
    }

    private static void aheadOfOne() {
        RingWord x = Check.told(TWO);
        int[] queue = {6, 4, 4, 3, 3, 2};
        int[] sent = {0, 2, 2, 4, 4, 6};
        for (int n = 0; n < queue.length; n++) {
            Check.due("ahead(0, " + n + ", 0)", x.ahead(0, n, 0), queue[n]);
            Check.due("ahead(0, " + n + ", 1)", x.ahead(0, n, 1), sent[n]);
            Check.due("ahead(0, " + n + ", 2)", x.ahead(0, n, 2), 6);
        }
        x.visits(3);
        Check.due("from now on it sends", x.ahead(0, 2, 1), 2);
        Check.due("from now on the longest", x.ahead(0, 2, 2), 3);
        RingWord y = Check.told("plain 0 9 9 9;plain 0 1 1 1;");
        // TIME 9, 10: 9 come; 28: 9 go, 9 come ahead of the end.
        Check.due("empty now", y.ahead(0, 0, 2), 0);
        Check.due("longest of two", y.ahead(0, 2, 2), 9);
        Check.due("then", y.ahead(0, 2, 0), 9);
        Check.due("of the second", y.ahead(1, 2, 0), 1);
        Check.due("longest behind a visit, not in it", y.ahead(0, 3, 2), 9);
        int[][] wrong = {{2, 0, 0}, {-1, 0, 0}, {0, -1, 0}, {0, 201, 0}, {0, 0, 3}, {0, 0, -1}};
        for (int[] w : wrong) {
            Check.due("ahead, wrong", y.ahead(w[0], w[1], w[2]), -1);
        }
        Check.holds("ahead(0, 200, 1)", y.ahead(0, 200, 1) > 0);
    }

    private static void whenEmpty() {
        RingWord x = Check.told(TWO);
        Check.due("when(0)", x.when(0), 7);
        Check.due("when(1)", x.when(1), 8);
        x.visits(7);
        Check.due("when(0), now", x.when(0), 0);
        Check.due("when(1), next", x.when(1), 1);
        Check.due("when(2)", x.when(2), -1);
        Check.due("when(-1)", x.when(-1), -1);
        RingWord y = Check.told("plain 2 1 9 9;");
        Check.due("never", y.when(0), -4);
        // Two stations: the first sends 1 in each second visit; 99 of them end behind visit 197.
        RingWord z = Check.told("plain 99 1 0 1;plain 99 1 0 1;");
        Check.due("behind 197", z.when(0), 197);
        Check.due("behind 198", z.when(1), 198);
        RingWord last = Check.told("plain 0 1 0 1;plain 50 1 0 1;plain 0 1 0 1;plain 50 1 0 1;");
        Check.due("behind 198 of four", last.when(1), 198);
        Check.due("behind 200 of four", last.when(3), 200);
        last.alter(1, 1, 51);
        Check.due("behind 202: none", last.when(1), -4);
    }
}
