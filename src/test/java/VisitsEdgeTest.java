/** The boundary cases of promises 12 to 15, and of what 'Terms' says of a VISIT, of COME, and of what is cut. */
public final class VisitsEdgeTest {
    private static final String FULL_RING = "greedy 99 9 9 9;".repeat(5);

    public static void main(String[] args) {
        comeAtTens();
        comeAboveAndAtMost();
        comeMoreThanOnce();
        comeWhereThereIsNoRoom();
        lastToFirst();
        withoutStations();
        visitsAtOnce();
        visitsInAll();
        byVisitsBehindAll();
        lostIsCut();
        lostUncut();
        runs();
        ahead();
        longest();
        when();
        Check.close("VisitsEdgeTest");
    }

    private static void comeAtTens() {
        Run.about("once for each number that 10 divides above t, and u at most");
        // LINK 1 and nothing to send: TIME is how many VISITS there were.
        Run.of("plain 0 1 3 1;").rows("visits(9) = 0", "rule(2) = 9", "station(0, 1) = 0", "visits(1) = 0", "rule(2) = 10",
                "station(0, 1) = 3", "alter(0, 1, 0) = 3", "visits(1) = 0", "rule(2) = 11", "station(0, 1) = 0",
                "visits(8) = 0", "rule(2) = 19", "station(0, 1) = 0", "visits(1) = 0", "rule(2) = 20", "station(0, 1) = 3");
        // 0 is not above TIME 0.
        Run.of("plain 0 1 9 1;").rows("visits(1) = 0", "station(0, 1) = 0");
        // In one VISIT: from 0 to 9, and to 10.
        Run.of("plain 0 1 3 9;").rows("visits(1) = 0", "rule(2) = 9", "station(0, 1) = 0");
        Run.of("plain 1 1 3 9;").rows("visits(1) = 1", "rule(2) = 10", "station(0, 1) = 3");
    }

    private static void comeAboveAndAtMost() {
        Run.about("from TIME t to a later TIME u");
        // From 10 to 19, and to 20.
        Run.of("plain 1 1 3 9;").rows("visits(1) = 1", "alter(0, 1, 0) = 3", "visits(1) = 0", "rule(2) = 19",
                "station(0, 1) = 0");
        Run.of("plain 1 1 3 9;").rows("visits(1) = 1", "visits(1) = 1", "rule(2) = 20", "station(0, 1) = 5");
        // From 9 to 10, to 18, and to 19.
        Run.of("plain 0 1 3 9;").rows("visits(1) = 0", "alter(0, 4, 1)", "visits(1) = 0", "rule(2) = 10", "station(0, 1) = 3");
        Run.of("plain 0 1 3 9;").rows("visits(1) = 0", "visits(1) = 0", "rule(2) = 18", "station(0, 1) = 3");
        Run.of("plain 0 1 3 9;").rows("visits(1) = 0", "post(0, 1)", "visits(1) = 1", "rule(2) = 19", "station(0, 1) = 3");
        Run.of("plain 0 1 3 9;").rows("visits(1) = 0", "alter(0, 2, 2)", "post(0, 2)", "visits(1) = 2", "rule(2) = 20",
                "station(0, 1) = 6");
    }

    private static void comeMoreThanOnce() {
        Run.about("GAIN of each STATION letters come to its QUEUE");
        // From 0 to 27 twice; from 2 to 29 twice, from 3 to 30 three times, from 9 to 36 three times.
        Run.of("greedy 99 9 1 9;").rows("visits(1) = 18", "rule(2) = 27", "station(0, 1) = 83");
        Run.of("plain 0 1 0 2;greedy 99 9 1 9;").rows("visits(2) = 18", "rule(2) = 29", "station(1, 1) = 83");
        Run.of("plain 0 1 0 3;greedy 99 9 1 9;").rows("visits(2) = 18", "rule(2) = 30", "station(1, 1) = 84");
        Run.of("plain 0 1 0 9;greedy 99 9 1 9;").rows("visits(2) = 18", "rule(2) = 36", "station(1, 1) = 84");
        // To each of five, whoever has THE WORD.
        for (int word = 0; word <= 4; word++) {
            Run.of("plain 1 1 1 9;plain 1 1 2 9;plain 1 1 0 9;plain 1 1 9 9;plain 1 1 3 9;word " + word + ";").rows(
                    "visits(1) = 1", "rule(2) = 10", "rule(6) = 19", "alter(" + word + ", 1, 0)", "rule(5) = 0");
        }
        Run.of("plain 1 1 1 9;plain 1 1 2 9;plain 1 1 0 9;plain 1 1 9 9;plain 1 1 3 9;").rows("visits(1) = 1",
                "station(0, 1) = 1", "station(1, 1) = 3", "station(2, 1) = 1", "station(3, 1) = 10", "station(4, 1) = 4");
    }

    private static void comeWhereThereIsNoRoom() {
        Run.about("those for which there is no room (99) are LOST");
        Run.of("plain 97 1 3 9;").rows("visits(1) = 1", "station(0, 1) = 99", "rule(5) = 0");
        Run.of("plain 98 1 3 9;").rows("visits(1) = 1", "station(0, 1) = 99", "rule(5) = 1");
        Run.of("plain 99 1 3 9;").rows("visits(1) = 1", "station(0, 1) = 99", "rule(5) = 2");
        Run.of("plain 99 1 1 9;").rows("visits(1) = 1", "station(0, 1) = 99", "rule(5) = 0");
        Run.of("plain 99 1 0 9;").rows("visits(1) = 1", "station(0, 1) = 98", "rule(5) = 0");
        // To one that has not THE WORD.
        Run.of("plain 1 1 0 9;plain 90 1 9 1;").rows("visits(1) = 1", "station(1, 1) = 99", "rule(5) = 0");
        Run.of("plain 1 1 0 9;plain 91 1 9 1;").rows("visits(1) = 1", "station(1, 1) = 99", "rule(5) = 1");
        Run.of("plain 1 1 0 9;plain 99 1 9 1;").rows("visits(1) = 1", "station(1, 1) = 99", "rule(5) = 9");
        Run.of("plain 1 1 0 9;plain 99 1 0 1;").rows("visits(1) = 1", "station(1, 1) = 99", "rule(5) = 0");
        // Of each by itself: what is room at one is none at another.
        Run.of("plain 1 1 9 9;plain 99 1 4 1;plain 97 1 4 1;").rows("visits(1) = 1", "rule(5) = 6", "station(0, 1) = 9");
    }

    private static void lastToFirst() {
        Run.about("a LINK (1 to 9) to the next one (of the last one to the first)");
        Run.of("plain 0 1 0 1;plain 0 1 0 9;word 1;").rows("visits(1) = 0", "rule(2) = 9", "rule(1) = 0", "visits(1) = 0",
                "rule(2) = 10", "rule(1) = 1");
        Run.about("THE WORD is at the next STATION");
        Run.of("plain 0 1 0 1;").rows("visits(1) = 0", "rule(1) = 0", "visits(99) = 0", "rule(1) = 0");
        for (int n = 2; n <= 5; n++) {
            Run.of("plain 9 1 0 1;".repeat(n) + "word " + (n - 2) + ";").rows("visits(1) = 1", "rule(1) = " + (n - 1),
                    "visits(1) = 1", "rule(1) = 0", "visits(1) = 1", "rule(1) = " + 1 % n);
        }
        Run.of("plain 9 1 0 1;plain 9 2 0 2;plain 9 3 0 3;plain 9 4 0 4;plain 9 5 0 5;word 4;").rows("visits(1) = 5",
                "rule(2) = 10", "visits(1) = 1", "rule(2) = 12", "rule(1) = 1", "station(4, 5) = 5", "station(0, 5) = 1");
    }

    private static void withoutStations() {
        Run.about("VISITS are 1 more in any case (without STATIONS nothing else happens)");
        Run.fresh().rows("visits(0) ! 0", "visits(1) = 0", "rule(3) = 1", "visits(100) = 0", "rule(3) = 101", "rule(0) = 0",
                "rule(1) = NONE", "rule(2) = 0", "rule(4) = 0", "rule(5) = 0", "rule(6) = 0", "rule(7) = 0");
        Run.of("plain 0 1 0 1;").rows("visits(1) = 0", "rule(3) = 1");
    }

    private static void visitsAtOnce() {
        Run.about("n VISITS (0 to 100): how many letters are SENT in them.");
        String[] wrong = {"visits(-1) ! BAD", "visits(101) ! BAD", "visits(LOW) ! BAD", "visits(HIGH) ! BAD"};
        Run.fresh().rows(wrong);
        Run.rich().rows(wrong).rows("visits(0) ! 0");
        // LINK 9, 1 is sent: TIME is 10 more each time, 9 come, 8 of them are LOST.
        Run.of("plain 99 1 9 9;").rows("visits(0) ! 0", "visits(1) = 1", "visits(100) = 100", "rule(3) = 101", "rule(4) = 101",
                "rule(2) = 1010", "rule(5) = 808", "station(0, 5) = 101");
    }

    private static Run made(int visits, String text) {
        Run run = Run.of(text);
        for (int n = 0; n < visits / 100; n++) {
            run.rows("visits(100)");
        }
        return visits % 100 == 0 ? run : run.rows("visits(" + visits % 100 + ")");
    }

    private static void visitsInAll() {
        Run.about("FULL: VISITS would be 10000 or more.");
        String[] texts = {"", "plain 9 1 1 1;fair 9 2 1 4;"};
        for (String text : texts) {
            made(9899, text).rows("visits(100)", "rule(3) = 9999", "visits(1) ! FULL", "visits(100) ! FULL", "visits(0) ! 0");
            made(9900, text).rows("visits(100) ! FULL", "rule(3) = 9900", "visits(99)", "rule(3) = 9999", "visits(1) ! FULL");
            made(9999, text).rows("visits(1) ! FULL", "visits(2) ! FULL", "visits(0) ! 0", "keep(0) = 0", "back(0) = 9999");
            made(9998, text).rows("visits(2) ! FULL", "visits(1)", "rule(3) = 9999", "visits(1) ! FULL");
        }
        Run.about("the first that fits");
        made(9999, "").rows("visits(101) ! BAD", "visits(-1) ! BAD", "visits(100) ! FULL");
        made(9999, "plain 9 1 1 1;").feed("plain 1 1 1 1;").rows("text() = 1", "rule(3) = 0", "visits(100) = 12");
    }

    private static void byVisitsBehindAll() {
        Run.about("BY VISITS: as it would be from now on.");
        made(9999, "plain 0 1 0 1;").rows("runs(200, 1) ! 200", "ahead(0, 200, 0) ! 0", "when(0) ! 0", "kind(0, 200, 1) ! 0",
                "hold(0, 200, 1) ! 0", "begin(200, 1) ! 200", "luck(5, 0, 8, 0, 0) ! 1", "mean(5, 8, 0) ! 0", "rule(3) = 9999");
        // Each call that only tells leaves all as it was.
        Run.rich().asModel("runs(200, 0)", "runs(200, 3)", "ahead(2, 200, 0)", "when(1)", "kind(0, 200, 0)", "hold(0, 200, 0)",
                "swap(200, 0)", "pass(200, 0)", "begin(200, 0)", "luck(5, 2, 8, 98, 0)", "mean(3, 8, 0)", "kinds(0)",
                "gains(0)", "gains(1)", "ask(0, 0)", "ask(1, 0)", "drift(7, 200, 0)", "drift(7, 200, 1)", "rule(7)",
                "station(1, 1)", "count(0)", "fault()", "torn()");
    }

    /** All queues are full behind each VISIT: in ten of them 27 times 45 letters come, 180 are SENT, 1035 are LOST. */
    private static Run nearlyCut() {
        return made(9660, FULL_RING).rows("rule(5) = 999810", "post(0, 99) = 99", "rule(5) = 999909", "post(0, 89) = 89",
                "rule(5) = 999998", "keep(0) = 0");
    }

    private static void lostIsCut() {
        Run.about("TIME, SENT, LOST: 999999 at most, each.");
        Run run = nearlyCut();
        run.rows("post(0, 1) = 1", "rule(5) = 999999", "post(0, 1) = 1", "rule(5) = 999999", "post(0, 99) = 99",
                "rule(5) = 999999", "back(0) = 9660", "rule(5) = 999998");
        run.rows("post(0, 2) = 2", "rule(5) = 999999", "back(0) = 9660", "post(0, 0) = 0", "rule(5) = 999998");
        run.rows("visits(1) = 18", "rule(5) = 999999", "visits(100) = 1800", "rule(5) = 999999", "back(0) = 9660");
        run.rows("sheet(0, 2, 2)", "lay(0, 1, 1)", "read(0, 2, 0, 1) = 1", "rule(5) = 999999", "read(0, 2, 0, 1) = 1",
                "rule(5) = 999999", "back(0) = 9660", "lay(0, 1, 99)", "read(0, 2, 0, 1) = 1", "rule(5) = 999999");
        run.rows("keep(1) = 0", "back(0) = 9660", "rule(5) = 999998", "back(1) = 9660", "rule(5) = 999999");
        run.rows("rule(2) = 260820", "rule(4) = 173880");
    }

    private static void lostUncut() {
        Run.about("(0 to 2 uncut)");
        Run cut = nearlyCut().rows("post(0, 99) = 99", "rule(5) = 999999");
        cut.rows("runs(10, 2) ! 1035", "runs(200, 2) ! 20700", "runs(10, 0) ! 180", "runs(10, 1) ! 270");
        Run anew = Run.of(FULL_RING);
        String[] calls = {"hold(0, 10, 0)", "hold(0, 10, 1)", "hold(4, 200, 0)", "hold(4, 200, 1)", "pass(10, 0)",
            "pass(10, 1)", "pass(7, 0)", "pass(7, 1)", "kind(0, 10, 1)", "drift(3, 200, 1)"};
        for (String call : calls) {
            // Queues and TIME's last figure are as at first, and none is fair: so are the answers.
            RingWord first = new RingWord();
            for (String made : anew.calls()) {
                Run.call(first, made);
            }
            cut.rows(call + " ! " + Run.call(first, call));
        }
    }

    private static void runs() {
        Run.about("BY VISITS, n of them (0 to 200): how many are SENT in them (what 0), how much TIME goes (1), how many are"
                + " LOST (2) (0 to 2 uncut), QUEUES then, summed (3). BAD.");
        String[] wrong = {"runs(-1, 0) ! BAD", "runs(201, 0) ! BAD", "runs(LOW, 0) ! BAD", "runs(HIGH, 0) ! BAD",
            "runs(0, -1) ! BAD", "runs(0, 4) ! BAD", "runs(200, LOW) ! BAD", "runs(200, HIGH) ! BAD", "runs(201, 4) ! BAD"};
        Run.fresh().rows(wrong).rows("runs(0, 0) ! 0", "runs(200, 0) ! 0", "runs(200, 1) ! 0", "runs(200, 2) ! 0",
                "runs(200, 3) ! 0");
        Run.rich().rows(wrong).rows("runs(0, 0) ! 0", "runs(0, 1) ! 0", "runs(0, 2) ! 0");
        Run.of("plain 99 1 9 9;").rows("runs(0, 3) ! 99", "runs(1, 0) ! 1", "runs(199, 0) ! 199", "runs(200, 0) ! 200",
                "runs(1, 1) ! 10", "runs(200, 1) ! 2000", "runs(1, 2) ! 8", "runs(200, 2) ! 1600", "runs(200, 3) ! 99");
        Run.of("plain 99 1 0 1;").rows("runs(98, 0) ! 98", "runs(99, 0) ! 99", "runs(100, 0) ! 99", "runs(200, 0) ! 99",
                "runs(200, 1) ! 299", "runs(98, 3) ! 1", "runs(99, 3) ! 0", "runs(200, 3) ! 0");
        // What was SENT and LOST before, and TIME that went, is not of them.
        Run.of("plain 99 1 9 9;").rows("visits(50) = 50", "runs(0, 0) ! 0", "runs(0, 1) ! 0", "runs(0, 2) ! 0",
                "runs(200, 0) ! 200", "runs(200, 1) ! 2000", "runs(200, 2) ! 1600");
    }

    private static void ahead() {
        Run.about("BY VISITS, n of them (0 to 200): QUEUE of a STATION then (what 0), how many it SENDS in them (1)");
        String[] wrong = {"ahead(-1, 0, 0) ! BAD", "ahead(LOW, 0, 0) ! BAD", "ahead(HIGH, 0, 0) ! BAD", "ahead(0, -1, 0) ! BAD",
            "ahead(0, 201, 0) ! BAD", "ahead(0, LOW, 0) ! BAD", "ahead(0, HIGH, 0) ! BAD", "ahead(0, 0, -1) ! BAD",
            "ahead(0, 0, 3) ! BAD", "ahead(0, 0, LOW) ! BAD", "ahead(0, 0, HIGH) ! BAD"};
        Run.fresh().rows(wrong).rows("ahead(0, 0, 0) ! BAD", "ahead(0, 0, 2) ! BAD");
        Run.rich().rows(wrong).rows("ahead(3, 0, 0) ! BAD", "ahead(4, 200, 0) ! BAD");
        Run.of("plain 99 1 0 1;plain 99 1 0 1;").rows("ahead(2, 0, 0) ! BAD", "ahead(0, 0, 0) ! 99", "ahead(1, 0, 1) ! 0",
                "ahead(0, 1, 0) ! 98", "ahead(1, 1, 0) ! 99", "ahead(1, 2, 0) ! 98", "ahead(0, 197, 0) ! 0",
                "ahead(1, 197, 0) ! 1", "ahead(1, 198, 0) ! 0", "ahead(0, 200, 0) ! 0", "ahead(0, 200, 1) ! 99",
                "ahead(1, 197, 1) ! 98");
        Run.of("plain 99 1 9 9;").rows("ahead(0, 200, 1) ! 200", "visits(5) = 5", "ahead(0, 0, 1) ! 0",
                "ahead(0, 200, 1) ! 200");
        // Of five, the last one, and the step to the first one.
        Run.of("plain 9 1 0 1;plain 9 1 0 1;plain 9 1 0 1;plain 9 1 0 1;plain 9 2 0 1;word 4;").rows("ahead(4, 1, 0) ! 7",
                "ahead(0, 1, 0) ! 9", "ahead(0, 2, 0) ! 8", "ahead(4, 5, 1) ! 2", "ahead(4, 6, 1) ! 4", "ahead(5, 6, 1) ! BAD");
    }

    private static void longest() {
        Run.about("its longest QUEUE behind any of them, now too (2)");
        Run.of("plain 10 9 0 9;").rows("ahead(0, 0, 2) ! 10", "ahead(0, 1, 2) ! 10", "ahead(0, 200, 2) ! 10");
        Run.of("plain 10 1 9 9;").rows("ahead(0, 0, 2) ! 10", "ahead(0, 1, 2) ! 18", "ahead(0, 2, 2) ! 26",
                "ahead(0, 200, 2) ! 99");
        // TIME 1, 11: 5 come; 17: they are gone. It is longest in the middle.
        Run.of("plain 0 9 5 1;plain 9 9 0 1;").rows("ahead(0, 1, 2) ! 0", "ahead(0, 2, 2) ! 5", "ahead(0, 3, 0) ! 0",
                "ahead(0, 3, 2) ! 5", "ahead(1, 3, 2) ! 9");
        // Nothing is sent, TIME is 10 behind ten: 1 comes in the last of them.
        Run.of("plain 0 1 0 1;plain 0 1 1 1;").rows("ahead(1, 9, 2) ! 0", "ahead(1, 10, 2) ! 1");
    }

    private static void when() {
        Run.about("BY VISITS: behind how many (0 to 200) the QUEUE of a STATION is empty first.");
        Run.fresh().rows("when(0) ! BAD", "when(-1) ! BAD");
        Run.rich().rows("when(-1) ! BAD", "when(3) ! BAD", "when(LOW) ! BAD", "when(HIGH) ! BAD");
        Run.of("plain 0 1 0 1;").rows("when(0) ! 0", "when(1) ! BAD");
        Run.of("plain 1 1 0 1;").rows("when(0) ! 1");
        Run.of("plain 99 1 0 1;").rows("when(0) ! 99", "visits(98)", "when(0) ! 1", "visits(1)", "when(0) ! 0");
        // Letters that come again behind it are of no account; those that come in the VISIT are.
        Run.of("plain 1 1 3 8;").rows("when(0) ! 1", "alter(0, 4, 9)", "when(0) ! NONE");
        Run.about("NONE: behind none.");
        Run.of("plain 2 1 9 9;").rows("when(0) ! NONE");
        String four = "plain 50 1 0 1;".repeat(4);
        Run.of(four).rows("when(0) ! 197", "when(1) ! 198", "when(2) ! 199", "when(3) ! 200");
        Run.of(four).rows("alter(0, 1, 51)", "when(0) ! NONE", "visits(1)", "when(0) ! 200", "visits(1)", "when(0) ! 199");
        Run.of(four + "word 3;").rows("when(3) ! 197", "when(0) ! 198", "when(2) ! 200", "alter(3, 1, 51)", "when(3) ! NONE");
    }
}
