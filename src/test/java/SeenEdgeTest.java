/** The boundary cases of promises 23 to 27, and of what 'Terms' says of SEEN. */
public final class SeenEdgeTest {
    public static void main(String[] args) {
        seen();
        sixAreSeen();
        forgotten();
        nothingSeen();
        seenNowAndLate();
        kinds();
        gains();
        noSuchStation();
        askLate();
        askNone();
        Check.close("SeenEdgeTest");
    }

    private static void seen() {
        Run.about("SEEN: behind n VISITS (0 to 40) the QUEUE of a STATION is v (0 to 99): how many are.");
        String[] wrong = {"see(-1, 0, 1) ! BAD", "see(41, 0, 1) ! BAD", "see(LOW, 0, 1) ! BAD", "see(HIGH, 0, 1) ! BAD",
            "see(1, -1, 1) ! BAD", "see(1, 5, 1) ! BAD", "see(1, LOW, 1) ! BAD", "see(1, HIGH, 1) ! BAD",
            "see(1, 0, -1) ! BAD", "see(1, 0, 100) ! BAD", "see(1, 0, LOW) ! BAD", "see(1, 0, HIGH) ! BAD"};
        Run.fresh().rows(wrong).rows("see(0, 0, 0) ! BAD", "see(40, 0, 99) ! BAD", "count(0) = 0");
        Run.rich().rows(wrong).rows("see(1, 3, 1) ! BAD", "see(1, 4, 1) ! BAD", "count(0) = 2", "see(0, 2, 0) = 3");
        Run.of("plain 9 1 0 1;".repeat(5)).rows(wrong).rows("see(0, 0, 9) = 1", "see(40, 4, 1) = 2", "see(1, 0, 0) = 3",
                "see(1, 0, 99) = 4", "count(0) = 4").rows(wrong);
    }

    private static void sixAreSeen() {
        Run.about("SEEN (6): behind n VISITS (0 to 40) from now on the QUEUE of a STATION is v.");
        Run run = Run.of("plain 20 3 2 7;");
        for (int n = 1; n <= 6; n++) {
            run.rows("count(0) = " + (n - 1), "see(0, 0, 20) = " + n);
        }
        run.rows("see(0, 0, 20) ! FULL", "see(0, 0, 19) ! FULL", "see(40, 0, 99) ! FULL", "count(0) = 6", "gains(0) = 1023");
        // The sixth is looked at as the others are.
        run.rows("forget(5) = 6", "see(1, 0, 19) = 6", "gains(0) = 4", "kinds(0) = 13", "see(1, 0, 19) ! FULL");
        Run.about("the first that fits");
        run.rows("see(41, 0, 20) ! BAD", "see(-1, 0, 20) ! BAD", "see(0, 1, 20) ! BAD", "see(0, 0, 100) ! BAD",
                "see(0, 0, 99) ! FULL");
    }

    private static void forgotten() {
        Run.about("SEEN are the first n alone: how many there were. BAD.");
        Run.fresh().rows("forget(-1) ! BAD", "forget(1) ! BAD", "forget(LOW) ! BAD", "forget(HIGH) ! BAD", "forget(0) ! 0");
        Run.rich().rows("forget(-1) ! BAD", "forget(3) ! BAD", "forget(6) ! BAD", "forget(2) ! 2", "forget(1) = 2",
                "forget(2) ! BAD", "forget(1) ! 1", "forget(0) = 1", "forget(1) ! BAD", "forget(0) ! 0");
        Run six = Run.of("plain 20 3 2 7;").rows("see(1, 0, 19)", "see(0, 0, 20)", "see(0, 0, 20)", "see(0, 0, 20)",
                "see(0, 0, 20)", "see(1, 0, 26)");
        six.rows("gains(0) = 0", "forget(7) ! BAD", "forget(6) ! 6", "forget(5) = 6", "gains(0) = 4", "forget(6) ! BAD",
                "forget(1) = 5", "gains(0) = 4", "forget(0) = 1", "gains(0) = 1023", "see(1, 0, 26) = 1", "gains(0) = 512");
    }

    private static void nothingSeen() {
        Run.about("KINDS of a STATION (bits) by which, all else as it is, all is as SEEN. BAD.");
        Run.of("fair 0 1 0 1;plain 99 9 9 9;").rows("kinds(0) ! 15", "kinds(1) ! 15");
        Run.about("GAINS of a STATION (bits 0 to 9) by which, all else as it is, all is as SEEN. BAD.");
        Run.of("fair 0 1 0 1;plain 99 9 9 9;").rows("gains(0) ! 1023", "gains(1) ! 1023");
    }

    private static void seenNowAndLate() {
        Run.about("behind n VISITS (0 to 40) from now on the QUEUE of a STATION is v");
        Run.of("plain 80 1 0 9;").rows("see(0, 0, 80) = 1", "kinds(0) = 15", "gains(0) = 1023", "forget(0)", "see(0, 0, 79) = 1",
                "kinds(0) = 0", "gains(0) = 0");
        // 1 is sent each time, TIME is 10 more: by 40 VISITS 40 are left, if none come.
        Run.of("plain 80 1 0 9;").rows("see(40, 0, 40) = 1", "kinds(0) = 5", "gains(0) = 1", "forget(0)", "see(39, 0, 41) = 1",
                "gains(0) = 1", "forget(0)", "see(40, 0, 41) = 1", "kinds(0) = 0", "gains(0) = 0", "forget(0)",
                "see(40, 0, 80) = 1", "gains(0) = 2", "forget(0)", "see(40, 0, 60) = 1", "kinds(0) = 8", "forget(0)",
                "see(40, 0, 0) = 1", "kinds(0) = 2", "gains(0) = 0");
        // From now on, also when VISITS have been made since.
        Run.of("plain 80 1 0 9;").rows("see(40, 0, 40) = 1", "visits(1) = 1", "gains(0) = 0", "forget(0)", "see(40, 0, 39) = 1",
                "gains(0) = 1");
        // Full and empty: 99, by as much as fills it; 0.
        Run.of("plain 99 9 0 9;").rows("see(1, 0, 99) = 1", "gains(0) = 512", "forget(0)", "see(1, 0, 90) = 1", "gains(0) = 1");
        Run.of("plain 9 9 0 9;").rows("see(1, 0, 0) = 1", "gains(0) = 1", "forget(0)", "see(1, 0, 9) = 1", "gains(0) = 512");
    }

    private static void kinds() {
        Run.about("KINDS of a STATION (bits) by which, all else as it is, all is as SEEN. BAD.");
        // By one VISIT plain, meek and fair leave 7 of 9, greedy 5; by two fair leaves 7 alone.
        Run.of("plain 9 2 0 1;").rows("see(1, 0, 7) = 1", "kinds(0) ! 13", "see(2, 0, 7) = 2", "kinds(0) ! 8",
                "see(2, 0, 5) = 3", "kinds(0) ! 0");
        Run.of("plain 9 2 0 1;").rows("see(1, 0, 5) = 1", "kinds(0) ! 2");
        Run.of("plain 9 2 0 1;plain 10 1 0 1;").rows("see(1, 0, 8) = 1", "kinds(0) ! 12", "kinds(1) ! 0");
        Run.of("plain 9 2 0 1;plain 9 1 0 1;").rows("see(1, 0, 7) = 1", "kinds(0) ! 13", "kinds(1) ! 15");
        // What is SEEN of another one, and all of it must be so.
        Run.of("plain 9 9 0 1;plain 50 1 5 1;").rows("see(1, 1, 55) = 1", "kinds(0) ! 3", "see(0, 1, 50) = 2", "kinds(0) ! 3",
                "see(0, 1, 51) = 3", "kinds(0) ! 0");
    }

    private static void gains() {
        Run.about("GAINS of a STATION (bits 0 to 9) by which, all else as it is, all is as SEEN. BAD.");
        for (int g = 0; g <= 9; g++) {
            Run.of("plain 20 3 2 7;").rows("see(1, 0, " + (17 + g) + ") = 1", "gains(0) ! " + (1 << g));
        }
        Run.of("plain 20 3 2 7;").rows("see(1, 0, 16) = 1", "gains(0) ! 0");
        Run.of("plain 20 3 2 7;").rows("see(1, 0, 27) = 1", "gains(0) ! 0");
        // TIME 9 and 10: none come, and all that would do; TIME 10: some.
        Run.of("plain 20 3 2 6;").rows("see(1, 0, 17) = 1", "gains(0) ! 1023");
        Run.of("plain 95 3 2 7;").rows("see(1, 0, 98) = 1", "gains(0) ! 64", "forget(0)", "see(1, 0, 99) = 1", "gains(0) ! 896");
    }

    private static void noSuchStation() {
        Run.about("BAD -1 (a number is not as told, there is no such STATION, IMAGE, SHEET)");
        String[] numbers = {"-1", "5", "LOW", "HIGH"};
        Run[] all = {Run.fresh(), Run.rich(), Run.of("plain 9 1 1 1;".repeat(5))};
        for (Run run : all) {
            for (String i : numbers) {
                run.rows("kinds(" + i + ") ! BAD", "gains(" + i + ") ! BAD", "ask(" + i + ", 0) ! BAD", "ask(" + i + ", 1) ! BAD");
            }
            run.rows("ask(0, -1) ! BAD", "ask(0, 2) ! BAD", "ask(0, LOW) ! BAD", "ask(0, HIGH) ! BAD");
        }
        Run.fresh().rows("kinds(0) ! BAD", "gains(0) ! BAD", "ask(0, 0) ! BAD", "ask(0, 1) ! BAD");
        Run.rich().rows("kinds(3) ! BAD", "gains(3) ! BAD", "ask(3, 0) ! BAD").asModel("kinds(2)", "gains(2)", "ask(2, 0)");
        Run.of("plain 9 1 1 1;".repeat(5)).rows("kinds(4) ! 15", "gains(4) ! 1023");
    }

    private static void askLate() {
        Run.about("Behind how many VISITS (0 to 40) to look how long the QUEUE of a STATION is, so that of gains() of it"
                + " fewest are left at the worst, fewer than now, the first (what 0), how many these are (1).");
        Run.of("plain 20 3 2 7;").rows("ask(0, 0) ! 1", "ask(0, 1) ! 1");
        Run.of("plain 0 1 0 1;").rows("ask(0, 0) ! 10", "ask(0, 1) ! 1");
        // 98 by none, 99 by any other: nine are left, and fewer by no later look.
        Run.of("plain 99 1 0 9;").rows("ask(0, 0) ! 1", "ask(0, 1) ! 9");
        // The fewest behind 40, found by a search; by the last one behind 41 they would be fewer still.
        Run.of("plain 35 4 1 2;greedy 99 2 3 2;").rows("ask(1, 0) ! 40", "ask(1, 1) ! 2").asModel("ask(1, 0)", "ask(1, 1)");
        Run.of("meek 10 8 6 1;greedy 99 5 7 2;").rows("see(5, 1, 99) = 1", "gains(1) ! 992", "ask(1, 0) ! 40", "ask(1, 1) ! 1")
                .asModel("ask(1, 0)", "ask(1, 1)");
        Run.of("greedy 99 1 8 1;greedy 49 2 0 6;").rows("ask(0, 0) ! 2").asModel("ask(0, 1)");
        // At the worst: not by the greatest gain, which other looks tell apart from all others.
        Run.of("greedy 99 6 1 6;greedy 99 8 3 1;").rows("ask(1, 0) ! 2", "ask(1, 1) ! 2").asModel("ask(1, 0)", "ask(1, 1)");
        Run.of("greedy 52 2 0 2;plain 92 9 2 5;").rows("ask(1, 0) ! 29", "ask(1, 1) ! 1").asModel("ask(1, 0)", "ask(1, 1)");
    }

    private static void askNone() {
        Run.about("fewer than now, the first (what 0), how many these are (1). BAD; NONE: none.");
        // One is left, none is left; two are left that no look tells apart.
        Run.of("plain 20 3 2 7;").rows("see(1, 0, 19) = 1", "gains(0) ! 4", "ask(0, 0) ! NONE", "ask(0, 1) ! NONE",
                "see(0, 0, 0) = 2", "gains(0) ! 0", "ask(0, 0) ! NONE", "ask(0, 1) ! NONE");
        for (int g = 0; g <= 9; g++) {
            Run.of("plain 20 3 2 7;").rows("see(1, 0, " + (17 + g) + ") = 1", "ask(0, 0) ! NONE", "ask(0, 1) ! NONE");
        }
        Run.of("plain 99 1 0 9;").rows("see(1, 0, 99) = 1", "gains(0) ! 1022", "ask(0, 0) ! NONE", "ask(0, 1) ! NONE");
        Run.of("plain 96 1 0 9;").rows("see(1, 0, 99) = 1", "gains(0) ! 1008", "ask(0, 0) ! NONE", "ask(0, 1) ! NONE");
        // Told apart behind 41 and not before, found by a search.
        Run.of("plain 99 2 1 2;greedy 91 5 3 1;").rows("see(9, 0, 97) = 1", "gains(0) ! 1020", "ask(0, 0) ! NONE",
                "ask(0, 1) ! NONE").asModel("gains(0)", "ask(0, 0)");
        Run.of("meek 99 1 9 3;plain 99 6 0 3;").rows("see(6, 0, 99) = 1", "gains(0) ! 1022", "ask(0, 0) ! NONE",
                "ask(0, 1) ! NONE").asModel("gains(0)", "ask(0, 0)");
    }
}
