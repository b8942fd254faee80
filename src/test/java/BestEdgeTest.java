/** The boundary cases of promises 16 to 20: what had better be. */
public final class BestEdgeTest {
    private static final String[] WRONG_N_OR_WHAT = {"-1, 0", "201, 0", "LOW, 0", "HIGH, 0", "0, -1", "0, 2", "200, LOW",
        "200, HIGH", "-1, 2", "201, -1"};

    public static void main(String[] args) {
        wrong();
        wrongStation();
        kind();
        hold();
        swap();
        swapOfPlaces();
        pass();
        begin();
        Check.close("BestEdgeTest");
    }

    private static void wrong() {
        Run.about("BAD -1 (a number is not as told, there is no such STATION, IMAGE, SHEET)");
        Run[] all = {Run.fresh(), Run.rich(), Run.of("plain 9 1 1 1;")};
        for (Run run : all) {
            for (String numbers : WRONG_N_OR_WHAT) {
                run.rows("kind(0, " + numbers + ") ! BAD", "hold(0, " + numbers + ") ! BAD", "swap(" + numbers + ") ! BAD",
                        "pass(" + numbers + ") ! BAD", "begin(" + numbers + ") ! BAD");
            }
        }
    }

    private static void wrongStation() {
        Run.about("BAD -1 (a number is not as told, there is no such STATION, IMAGE, SHEET)");
        Run.fresh().rows("kind(0, 0, 0) ! BAD", "hold(0, 0, 0) ! BAD", "kind(-1, 0, 0) ! BAD", "hold(-1, 0, 0) ! BAD");
        Run.rich().rows("kind(-1, 1, 0) ! BAD", "kind(3, 1, 0) ! BAD", "kind(LOW, 1, 0) ! BAD", "kind(HIGH, 1, 0) ! BAD",
                "hold(-1, 1, 0) ! BAD", "hold(3, 1, 0) ! BAD", "hold(LOW, 1, 0) ! BAD", "hold(HIGH, 1, 0) ! BAD");
        Run.of("plain 9 1 0 1;".repeat(5)).rows("kind(4, 5, 0) ! 1", "kind(5, 5, 0) ! BAD", "hold(4, 5, 0) ! 1",
                "hold(5, 5, 0) ! BAD");
    }

    private static void kind() {
        Run.about("The KIND of a STATION by which most are SENT in n VISITS (0 to 200), of several the first (what 0),"
                + " how many (1).");
        Run.of("fair 9 1 0 1;").rows("kind(0, 0, 0) ! 0", "kind(0, 0, 1) ! 0");
        // Nothing to send, 1 to send, 2 to send: greedy is better only by the last one.
        Run.of("fair 0 1 0 1;").rows("kind(0, 1, 0) ! 0", "kind(0, 200, 1) ! 0");
        Run.of("fair 1 1 0 1;").rows("kind(0, 1, 0) ! 0", "kind(0, 1, 1) ! 1");
        Run.of("fair 2 1 0 1;").rows("kind(0, 1, 0) ! 1", "kind(0, 1, 1) ! 2", "kind(0, 2, 0) ! 0", "kind(0, 2, 1) ! 2");
        // All that is SENT counts, not that of the STATION alone; and its KIND as it is is one of the four.
        Run.of("plain 9 9 0 1;plain 9 1 0 1;").rows("kind(1, 1, 0) ! 0", "kind(1, 1, 1) ! 9", "kind(1, 2, 0) ! 1",
                "kind(1, 2, 1) ! 11");
        // 1 is sent in each VISIT, 2 if greedy, 1 in each second if fair: to the last of 200.
        Run.of("plain 99 1 9 9;").rows("kind(0, 199, 1) ! 398", "kind(0, 200, 0) ! 1", "kind(0, 200, 1) ! 400");
        // By a fair first one 4, 3, 0, 0, 6, 3 are sent, else 15: the last KIND may be the best one.
        Run.of("plain 4 6 3 2;meek 3 6 1 6;").rows("kind(0, 6, 0) ! 3", "kind(0, 6, 1) ! 16");
        Run.rich().asModel("kind(0, 200, 0)", "kind(0, 200, 1)", "kind(2, 200, 0)", "kind(2, 7, 1)");
    }

    private static void hold() {
        Run.about("The HOLD of a STATION by which fewest are LOST in n VISITS (0 to 200), of several the least (what 0),"
                + " how many (1).");
        Run.of("plain 99 9 9 9;").rows("hold(0, 0, 0) ! 1", "hold(0, 0, 1) ! 0");
        Run.of("plain 50 9 0 9;").rows("hold(0, 200, 0) ! 1", "hold(0, 200, 1) ! 0");
        // 9 come by TIME 10 to 18: as many are LOST as there is no room for.
        Run.of("plain 99 1 9 9;").rows("hold(0, 1, 0) ! 9", "hold(0, 1, 1) ! 0");
        Run.of("plain 99 1 8 9;").rows("hold(0, 1, 0) ! 8", "hold(0, 1, 1) ! 0");
        Run.of("plain 99 9 1 9;").rows("hold(0, 1, 0) ! 1", "hold(0, 1, 1) ! 0");
        Run.of("plain 8 1 9 9;").rows("hold(0, 1, 0) ! 1", "hold(0, 1, 1) ! 0");
        // LOST of all: the HOLD of one makes TIME in which the other's run over.
        Run.of("plain 9 1 0 1;plain 99 1 9 1;").rows("hold(0, 1, 0) ! 1", "hold(0, 1, 1) ! 0");
        Run.of("plain 9 9 0 9;plain 99 1 9 1;").rows("hold(0, 1, 0) ! 1", "hold(0, 1, 1) ! 9");
        // By HOLD h TIME is 9 + h more each time, the QUEUE full again: 1620 less 20 h in 200.
        Run.of("plain 99 4 9 9;").rows("hold(0, 200, 0) ! 9", "hold(0, 200, 1) ! 1440");
        // What was LOST before does not count.
        Run.of("plain 99 4 0 9;").rows("post(0, 99) = 99", "hold(0, 200, 1) ! 0");
        Run.rich().asModel("hold(0, 200, 0)", "hold(0, 200, 1)", "hold(2, 200, 0)", "hold(2, 7, 1)");
    }

    private static void swap() {
        Run.about("more than as it is: 10 times the lesser and the greater, of several the least (what 0), how many (1)");
        Run.of("plain 0 1 0 1;plain 9 5 0 1;").rows("swap(1, 0) ! 1", "swap(1, 1) ! 5");
        Run.of("plain 4 4 0 1;plain 9 5 0 1;").rows("swap(1, 0) ! 1", "swap(1, 1) ! 5");
        // The least of several that are best: 01 of 01, 02; 02 of 02, 12 (by 200 VISITS each of the first two has 67).
        Run.of("plain 0 1 0 1;plain 9 5 0 1;plain 9 5 0 1;").rows("swap(1, 0) ! 1", "swap(1, 1) ! 5");
        Run.of("plain 0 1 0 1;plain 9 4 0 1;plain 9 5 0 1;").rows("swap(1, 0) ! 2", "swap(1, 1) ! 5");
        Run.of("plain 0 1 0 1;plain 0 1 0 1;plain 99 1 9 9;").rows("runs(200, 0) ! 66", "swap(200, 0) ! 2",
                "swap(200, 1) ! 67", "swap(199, 0) ! 2", "swap(198, 0) ! NONE");
        Run.about("NONE: by none.");
        Run.fresh().rows("swap(0, 0) ! NONE", "swap(200, 0) ! NONE", "swap(200, 1) ! NONE");
        Run.of("plain 9 1 0 1;").rows("swap(0, 0) ! NONE", "swap(200, 0) ! NONE", "swap(200, 1) ! NONE");
        Run.of("plain 0 1 0 1;plain 9 5 0 1;").rows("swap(0, 0) ! NONE", "swap(0, 1) ! NONE", "swap(2, 0) ! NONE",
                "swap(2, 1) ! NONE");
        Run.of("plain 5 5 0 1;plain 9 5 0 1;").rows("swap(1, 0) ! NONE", "swap(1, 1) ! NONE");
        Run.of("plain 6 6 0 1;plain 9 5 0 1;").rows("swap(1, 0) ! NONE", "swap(1, 1) ! NONE");
        Run.of("plain 0 1 0 1;plain 99 1 9 9;").rows("swap(199, 0) ! 1", "swap(199, 1) ! 100", "swap(200, 0) ! NONE",
                "swap(200, 1) ! NONE");
        Run.rich().asModel("swap(200, 0)", "swap(200, 1)", "swap(1, 0)", "swap(8, 0)");
    }

    private static void swapOfPlaces() {
        Run.about("Two STATIONS that are to change places (as by change())");
        // THE WORD is at one place, the one that can send at another: these two are to change.
        for (int word = 0; word <= 4; word++) {
            for (int i = 0; i <= 4; i++) {
                StringBuilder text = new StringBuilder();
                for (int k = 0; k <= 4; k++) {
                    text.append(k == i ? "plain 9 5 0 1;" : "plain 0 1 0 1;");
                }
                String want = word == i ? "NONE" : String.valueOf(10 * Math.min(word, i) + Math.max(word, i));
                Run.of(text + "word " + word + ";").rows("swap(1, 0) ! " + want, "swap(1, 1) ! " + (word == i ? "NONE" : "5"));
            }
        }
        // One that is TIRED takes it along.
        Run.of("fair 9 5 0 1;plain 9 2 0 1;").rows("visits(2) = 7", "swap(1, 0) ! 1", "swap(1, 1) ! 2", "give(1) = 0",
                "swap(1, 0) ! NONE");
    }

    private static void pass() {
        Run.about("(it SENDS none, its LINK takes TIME, letters COME to it)");
        // As it is TIME 10, 8 are LOST; passed by TIME 9, none; twice: 16, and 9 by TIME 18.
        Run.of("plain 99 1 9 9;").rows("pass(1, 0) ! 0", "pass(1, 1) ! 0", "pass(2, 0) ! 0", "pass(2, 1) ! 9");
        Run.about("fewer than as it is, of several the first (what 0), how many (1). BAD; NONE: none.");
        Run.fresh().rows("pass(0, 0) ! NONE", "pass(200, 0) ! NONE", "pass(200, 1) ! NONE");
        Run.of("plain 99 1 9 9;").rows("pass(0, 0) ! NONE", "pass(0, 1) ! NONE", "pass(200, 0) ! NONE", "pass(200, 1) ! NONE");
        Run.of("plain 50 1 1 1;".repeat(5)).rows("pass(200, 0) ! NONE", "pass(200, 1) ! NONE");
        // As many without the first one, which has nothing to send, and 1 more without the second: not fewer.
        Run.of("plain 0 1 0 9;plain 99 1 9 9;").rows("runs(2, 2) ! 8", "pass(2, 0) ! NONE", "pass(2, 1) ! NONE");
        // 1 fewer: TIME 10 as it is, 2 come where there is room for 1; TIME 9 without it.
        Run.of("plain 99 1 2 9;").rows("runs(1, 2) ! 1", "pass(1, 0) ! 0", "pass(1, 1) ! 0");
        Run.of("plain 99 1 1 9;").rows("runs(1, 2) ! 0", "pass(1, 0) ! NONE", "pass(1, 1) ! NONE");
        // Of two alike the first; the last of five alone.
        Run.of("greedy 99 9 0 1;greedy 99 9 0 1;plain 99 1 9 1;").rows("runs(2, 2) ! 27", "pass(2, 0) ! 0", "pass(2, 1) ! 18");
        Run.of("plain 99 1 9 1;plain 0 1 0 1;plain 0 1 0 1;plain 0 1 0 1;greedy 9 9 0 1;word 4;").rows("runs(1, 2) ! 9",
                "pass(1, 0) ! 4", "pass(1, 1) ! 0");
        // TIME is 399 in 200 as it is, 300 without the first one.
        Run.of("greedy 99 9 0 1;plain 99 1 9 1;").rows("runs(200, 2) ! 254", "pass(200, 0) ! 0", "pass(200, 1) ! 170");
        Run.rich().asModel("pass(200, 0)", "pass(200, 1)", "pass(3, 0)", "pass(9, 1)");
    }

    private static void begin() {
        Run.about("The STATION at which THE WORD had better be now so that least TIME goes in n VISITS (0 to 200),"
                + " of several the first (what 0), how much (1).");
        Run.of("plain 9 9 0 9;plain 0 1 0 1;").rows("begin(0, 0) ! 0", "begin(0, 1) ! 0", "begin(1, 0) ! 1", "begin(1, 1) ! 1",
                "begin(2, 0) ! 0", "begin(2, 1) ! 19");
        Run.of("plain 0 1 0 9;").rows("begin(0, 0) ! 0", "begin(200, 0) ! 0", "begin(200, 1) ! 1800");
        // The first of several, also if another one of them has THE WORD; the last one alone.
        Run.of("plain 0 1 0 2;plain 0 1 0 1;plain 0 1 0 1;word 2;").rows("begin(1, 0) ! 1", "begin(1, 1) ! 1");
        Run.of("plain 0 1 0 2;plain 0 1 0 2;plain 0 1 0 2;plain 0 1 0 2;plain 0 1 0 1;").rows("begin(1, 0) ! 4",
                "begin(1, 1) ! 1", "begin(5, 0) ! 0", "begin(5, 1) ! 9");
        // In 200 VISITS of three the first two have 67: 1272 from the first one, 1264 from the others.
        Run.of("plain 0 1 0 9;plain 0 1 0 9;plain 0 1 0 1;").rows("begin(200, 0) ! 1", "begin(200, 1) ! 1264");
        Run.about("NONE: there are none.");
        Run.fresh().rows("begin(0, 0) ! NONE", "begin(0, 1) ! NONE", "begin(200, 0) ! NONE", "begin(200, 1) ! NONE");
        Run.rich().asModel("begin(200, 0)", "begin(200, 1)", "begin(1, 0)", "begin(1, 1)");
    }
}
