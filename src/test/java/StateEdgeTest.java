/** The boundary cases of promises 6 to 11, and of what 'Terms' says of SENDS. */
public final class StateEdgeTest {
    private static final String FIVE = "plain 1 1 1 1;greedy 2 2 2 2;meek 3 3 3 3;fair 4 4 4 4;plain 5 5 5 5;";

    public static void main(String[] args) {
        plainSends();
        greedySends();
        meekSends();
        fairSends();
        tired();
        rules();
        stations();
        altered();
        given();
        posted();
        changed();
        Check.close("StateEdgeTest");
    }

    private static void sends(String text, int want) {
        Run.of(text).rows("rule(7) = " + want, "visits(1) = " + want);
    }

    private static void plainSends() {
        Run.about("plain HOLD letters, or all of its QUEUE, if these are fewer");
        sends("plain 0 4 0 1;", 0);
        sends("plain 1 4 0 1;", 1);
        sends("plain 3 4 0 1;", 3);
        sends("plain 4 4 0 1;", 4);
        sends("plain 5 4 0 1;", 4);
        sends("plain 99 1 0 1;", 1);
        sends("plain 99 9 0 1;", 9);
        sends("plain 0 1 0 1;", 0);
        sends("plain 1 1 0 1;", 1);
        sends("plain 4 4 0 1;plain 99 1 0 1;", 4);
    }

    private static void greedySends() {
        Run.about("greedy likewise, but with twice its HOLD");
        sends("greedy 0 4 0 1;", 0);
        sends("greedy 7 4 0 1;", 7);
        sends("greedy 8 4 0 1;", 8);
        sends("greedy 9 4 0 1;", 8);
        sends("greedy 1 1 0 1;", 1);
        sends("greedy 2 1 0 1;", 2);
        sends("greedy 3 1 0 1;", 2);
        sends("greedy 17 9 0 1;", 17);
        sends("greedy 18 9 0 1;", 18);
        sends("greedy 19 9 0 1;", 18);
        sends("greedy 99 9 0 1;", 18);
        sends("greedy 9 4 0 1;plain 99 1 0 1;", 8);
    }

    private static void meekSends() {
        Run.about("meek as a plain one, but 1 fewer (0 at least), if another STATION has a longer QUEUE");
        sends("meek 5 4 0 1;", 4);
        sends("meek 5 4 0 1;plain 4 1 0 1;", 4);
        sends("meek 5 4 0 1;plain 5 1 0 1;", 4);
        sends("meek 5 4 0 1;plain 6 1 0 1;", 3);
        sends("meek 5 4 0 1;plain 99 1 0 1;", 3);
        sends("meek 4 4 0 1;plain 5 1 0 1;", 3);
        sends("meek 3 4 0 1;plain 4 1 0 1;", 2);
        sends("meek 1 4 0 1;plain 2 1 0 1;", 0);
        sends("meek 5 1 0 1;plain 6 1 0 1;", 0);
        sends("meek 0 4 0 1;plain 1 1 0 1;", 0);
        sends("meek 0 4 0 1;", 0);
        sends("meek 99 9 0 1;plain 99 1 0 1;", 9);
        sends("meek 98 9 0 1;plain 99 1 0 1;", 8);
        // Another one wherever it stands: the next one, the first, the last, behind and ahead.
        sends("meek 5 4 0 1;plain 6 1 0 1;plain 0 1 0 1;plain 0 1 0 1;plain 0 1 0 1;", 3);
        sends("meek 5 4 0 1;plain 0 1 0 1;plain 0 1 0 1;plain 0 1 0 1;plain 6 1 0 1;", 3);
        sends("plain 6 1 0 1;plain 0 1 0 1;plain 0 1 0 1;plain 0 1 0 1;meek 5 4 0 1;word 4;", 3);
        sends("plain 0 1 0 1;plain 0 1 0 1;plain 0 1 0 1;plain 6 1 0 1;meek 5 4 0 1;word 4;", 3);
        sends("plain 5 1 0 1;plain 5 1 0 1;meek 5 4 0 1;plain 5 1 0 1;plain 5 1 0 1;word 2;", 4);
        sends("plain 4 1 0 1;plain 5 1 0 1;meek 5 4 0 1;plain 6 1 0 1;plain 3 1 0 1;word 2;", 3);
    }

    private static void fairSends() {
        Run.about("fair as a meek one, but none, if it is TIRED");
        sends("fair 5 4 0 1;", 4);
        sends("fair 5 4 0 1;plain 5 1 0 1;", 4);
        sends("fair 5 4 0 1;plain 6 1 0 1;", 3);
        sends("fair 1 4 0 1;plain 2 1 0 1;", 0);
        sends("fair 0 4 0 1;plain 2 1 0 1;", 0);
        Run.of("fair 9 1 0 1;").rows("visits(1) = 1", "rule(7) = 0", "visits(1) = 0", "rule(7) = 1", "visits(1) = 1");
        Run.of("fair 9 4 0 1;plain 99 1 0 1;").rows("visits(2) = 4", "rule(7) = 0", "alter(1, 1, 0)", "rule(7) = 0");
        // Of the other KINDS none is held back by it.
        Run.of("fair 9 2 0 1;").rows("visits(1) = 2", "rule(7) = 0", "alter(0, 0, 0) = 3", "rule(7) = 2",
                "alter(0, 0, 1) = 0", "rule(7) = 4", "alter(0, 0, 2) = 1", "rule(7) = 2");
    }

    private static void tired() {
        Run.about("It is TIRED then, if it has SENT any in this VISIT, else not (of any KIND).");
        String[] kinds = {"plain", "greedy", "meek", "fair"};
        for (String kind : kinds) {
            Run.of(kind + " 1 1 0 1;").rows("station(0, 6) = 0", "visits(1) = 1", "station(0, 6) = 1", "visits(1) = 0",
                    "station(0, 6) = 0");
            Run.of(kind + " 0 1 0 1;").rows("visits(1) = 0", "station(0, 6) = 0");
            // It is of the one that has THE WORD alone: the other one stays as it is, tired or not.
            Run.of(kind + " 5 2 0 1;plain 0 1 0 1;").rows("visits(1)", "station(0, 6) = 1", "station(1, 6) = 0", "visits(1)",
                    "station(0, 6) = 1", "station(1, 6) = 0");
        }
        Run.of("meek 1 1 0 1;plain 2 1 0 1;").rows("visits(1) = 0", "station(0, 6) = 0");
        Run.of("fair 9 1 0 1;").rows("visits(1) = 1", "station(0, 6) = 1", "visits(1) = 0", "station(0, 6) = 0");
    }

    private static void rules() {
        Run.about("0 STATIONS, 1 which has THE WORD (NONE), 2 TIME, 3 VISITS, 4 SENT, 5 LOST, 6 QUEUES summed,"
                + " 7 how many that one would SEND now (0 without). BAD.");
        String[] wrong = {"rule(-1) ! BAD", "rule(8) ! BAD", "rule(LOW) ! BAD", "rule(HIGH) ! BAD"};
        Run.fresh().rows(wrong).rows("rule(0) ! 0", "rule(1) ! NONE", "rule(2) ! 0", "rule(3) ! 0", "rule(4) ! 0",
                "rule(5) ! 0", "rule(6) ! 0", "rule(7) ! 0");
        Run.rich().rows(wrong).rows("rule(0) ! 3");
        Run.of(FIVE + "word 4;").rows(wrong).rows("rule(0) ! 5", "rule(1) ! 4", "rule(6) ! 15", "rule(7) ! 5");
        Run.of("plain 99 9 9 9;".repeat(5)).rows("rule(6) = 495");
        Run.of("plain 0 9 9 9;".repeat(5)).rows("rule(6) = 0");
    }

    private static void stations() {
        Run.about("Of a STATION: 0 KIND, 1 QUEUE, 2 HOLD, 3 GAIN, 4 LINK, 5 how many it has SENT itself, 6 whether it is"
                + " TIRED (1, 0). BAD.");
        Run.fresh().rows("station(0, 0) ! BAD", "station(-1, 0) ! BAD", "station(0, 6) ! BAD");
        Run.of(FIVE).rows("station(-1, 0) ! BAD", "station(0, 0) ! 0", "station(4, 1) ! 5", "station(5, 0) ! BAD",
                "station(5, 7) ! BAD", "station(0, -1) ! BAD", "station(0, 6) ! 0", "station(0, 7) ! BAD",
                "station(4, 7) ! BAD");
        Run.rich().rows("station(2, 6) ! 1", "station(3, 0) ! BAD", "station(4, 0) ! BAD", "station(-1, 0) ! BAD",
                "station(LOW, 0) ! BAD", "station(HIGH, 0) ! BAD", "station(0, LOW) ! BAD", "station(0, HIGH) ! BAD");
    }

    private static void altered() {
        Run.about("KIND, QUEUE, HOLD, GAIN, LINK (what 0 to 4) of a STATION becomes v: what it was.");
        int[] least = {0, 0, 1, 0, 1};
        int[] most = {3, 99, 9, 9, 9};
        int[] was = {3, 4, 4, 4, 4};
        for (int what = 0; what <= 4; what++) {
            String call = "alter(3, " + what + ", ";
            Run.of(FIVE).rows(call + (least[what] - 1) + ") ! BAD", call + (most[what] + 1) + ") ! BAD", call + "LOW) ! BAD",
                    call + "HIGH) ! BAD", call + least[what] + ") = " + was[what], call + (least[what] - 1) + ") ! BAD",
                    call + most[what] + ") = " + least[what], call + (most[what] + 1) + ") ! BAD",
                    call + most[what] + ") ! " + most[what], "station(3, " + what + ") = " + most[what]);
            String rich = "alter(0, " + what + ", ";
            Run.rich().rows(rich + (least[what] - 1) + ") ! BAD", rich + (most[what] + 1) + ") ! BAD");
        }
        Run.fresh().rows("alter(0, 0, 0) ! BAD", "alter(0, 1, 1) ! BAD", "alter(-1, 1, 1) ! BAD");
        Run.rich().rows("alter(3, 1, 1) ! BAD", "alter(-1, 1, 1) ! BAD", "alter(LOW, 1, 1) ! BAD", "alter(HIGH, 1, 1) ! BAD",
                "alter(0, -1, 1) ! BAD", "alter(0, 5, 1) ! BAD", "alter(0, 6, 1) ! BAD", "alter(0, LOW, 1) ! BAD",
                "alter(0, HIGH, 1) ! BAD", "alter(3, 5, -1) ! BAD");
        Run.of(FIVE).rows("alter(5, 1, 1) ! BAD", "alter(-1, 1, 1) ! BAD", "alter(0, 1, 9) = 1", "alter(4, 1, 8) = 5",
                "station(0, 1) = 9", "station(1, 1) = 2", "station(2, 1) = 3", "station(3, 1) = 4", "station(4, 1) = 8");
    }

    private static void given() {
        Run.about("THE WORD is at a STATION: which had it. BAD.");
        Run.fresh().rows("give(0) ! BAD", "give(-1) ! BAD", "give(-4) ! BAD", "rule(1) = NONE");
        Run.of(FIVE).rows("give(-1) ! BAD", "give(5) ! BAD", "give(LOW) ! BAD", "give(HIGH) ! BAD", "give(0) ! 0",
                "give(4) = 0", "rule(1) = 4", "give(5) ! BAD", "give(4) ! 4", "give(0) = 4", "rule(1) = 0");
        Run.rich().rows("give(3) ! BAD", "give(-1) ! BAD", "give(4) ! BAD", "give(2) = 1", "rule(1) = 2");
    }

    private static void posted() {
        Run.about("n letters (0 to 99) come to the QUEUE of a STATION by hand: how many of them are LOST"
                + " (LOST is more by them). BAD.");
        Run.fresh().rows("post(0, 0) ! BAD", "post(0, 1) ! BAD", "post(-1, 0) ! BAD");
        Run.of(FIVE).rows("post(0, -1) ! BAD", "post(0, 100) ! BAD", "post(0, LOW) ! BAD", "post(0, HIGH) ! BAD",
                "post(-1, 1) ! BAD", "post(5, 1) ! BAD", "post(LOW, 1) ! BAD", "post(HIGH, 1) ! BAD", "post(4, 0) ! 0",
                "post(4, 94) = 0", "station(4, 1) = 99", "rule(5) = 0", "post(4, 0) ! 0");
        Run.rich().rows("post(3, 1) ! BAD", "post(-1, 1) ! BAD", "post(0, -1) ! BAD", "post(0, 100) ! BAD");
        Run.about("those for which there is no room (99) are LOST");
        Run.of("plain 0 1 0 1;").rows("post(0, 99) = 0", "station(0, 1) = 99", "rule(5) = 0", "post(0, 1) = 1",
                "station(0, 1) = 99", "rule(5) = 1", "post(0, 99) = 99", "rule(5) = 100");
        Run.of("plain 1 1 0 1;").rows("post(0, 99) = 1", "station(0, 1) = 99", "rule(5) = 1");
        Run.of("plain 98 1 0 1;").rows("post(0, 1) = 0", "rule(5) = 0", "station(0, 1) = 99");
        Run.of("plain 98 1 0 1;").rows("post(0, 2) = 1", "rule(5) = 1", "station(0, 1) = 99");
    }

    private static void changed() {
        Run.about("Two STATIONS change places (all of them, but that THE WORD stays at its place): STATIONS."
                + " BAD (also the same one).");
        Run.fresh().rows("change(0, 0) ! BAD", "change(0, 1) ! BAD");
        Run.of("plain 5 5 5 5;").rows("change(0, 0) ! BAD", "change(0, 1) ! BAD", "change(1, 0) ! BAD");
        Run.of(FIVE).rows("change(0, 0) ! BAD", "change(4, 4) ! BAD", "change(0, 5) ! BAD", "change(5, 0) ! BAD",
                "change(-1, 0) ! BAD", "change(0, -1) ! BAD", "change(-1, -1) ! BAD", "change(5, 5) ! BAD",
                "change(LOW, 0) ! BAD", "change(0, HIGH) ! BAD");
        Run.rich().rows("change(1, 1) ! BAD", "change(2, 3) ! BAD", "change(3, 2) ! BAD", "change(-1, 2) ! BAD");
        // The first and the last, either way, whoever has THE WORD.
        String[] calls = {"change(0, 4) = 5", "change(4, 0) = 5"};
        for (String call : calls) {
            for (int word = 0; word <= 4; word++) {
                Run.of(FIVE + "word " + word + ";").rows(call, "station(0, 1) = 5", "station(1, 1) = 2", "station(2, 1) = 3",
                        "station(3, 1) = 4", "station(4, 1) = 1", "rule(1) = " + word);
            }
        }
        Run.of("fair 9 2 3 4;plain 1 1 1 1;").rows("visits(1) = 2", "change(0, 1) = 2", "station(1, 0) = 3",
                "station(1, 1) = 7", "station(1, 2) = 2", "station(1, 3) = 3", "station(1, 4) = 4", "station(1, 5) = 2",
                "station(1, 6) = 1", "station(0, 5) = 0", "station(0, 6) = 0", "rule(1) = 1", "rule(7) = 0");
    }
}
