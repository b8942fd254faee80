/** The boundary cases of promises 21 and 22, and of fractions. */
public final class LuckEdgeTest {
    public static void main(String[] args) {
        wrongLuck();
        wrongMean();
        never();
        always();
        noVisits();
        eightVisits();
        queuesOrLess();
        sendsNone();
        lastToFirst();
        lowestTerms();
        withoutStations();
        Check.close("LuckEdgeTest");
    }

    private static void wrongLuck() {
        Run.about("Each of n VISITS (0 to 8) fails by v out of ten (0 to 10), by itself");
        String[] wrong = {"luck(-1, 0, 1, 1, 0) ! BAD", "luck(11, 0, 1, 1, 0) ! BAD", "luck(LOW, 0, 1, 1, 0) ! BAD",
            "luck(HIGH, 0, 1, 1, 0) ! BAD", "luck(5, 0, -1, 1, 0) ! BAD", "luck(5, 0, 9, 1, 0) ! BAD",
            "luck(5, 0, LOW, 1, 0) ! BAD", "luck(5, 0, HIGH, 1, 0) ! BAD", "luck(5, 0, 1, -1, 0) ! BAD",
            "luck(5, 0, 1, 100, 0) ! BAD", "luck(5, 0, 1, LOW, 0) ! BAD", "luck(5, 0, 1, HIGH, 0) ! BAD",
            "luck(5, 0, 1, 1, -1) ! BAD", "luck(5, 0, 1, 1, 2) ! BAD", "luck(5, 0, 1, 1, LOW) ! BAD",
            "luck(5, 0, 1, 1, HIGH) ! BAD", "luck(5, -1, 1, 1, 0) ! BAD", "luck(5, LOW, 1, 1, 0) ! BAD",
            "luck(5, HIGH, 1, 1, 0) ! BAD"};
        Run.rich().rows(wrong).rows("luck(5, 3, 1, 1, 0) ! BAD", "luck(5, 4, 8, 1, 1) ! BAD");
        Run.fresh().rows(wrong).rows("luck(0, 0, 0, 0, 0) ! BAD", "luck(5, 0, 1, 1, 1) ! BAD");
        Run.of("plain 9 1 0 1;".repeat(5)).rows("luck(5, 5, 1, 1, 0) ! BAD", "luck(5, 4, 1, 9, 0) ! 1");
    }

    private static void wrongMean() {
        Run.about("Likewise, the mean of how many are SENT in them: 0, 1. BAD.");
        String[] wrong = {"mean(-1, 1, 0) ! BAD", "mean(11, 1, 0) ! BAD", "mean(LOW, 1, 0) ! BAD", "mean(HIGH, 1, 0) ! BAD",
            "mean(5, -1, 0) ! BAD", "mean(5, 9, 0) ! BAD", "mean(5, LOW, 0) ! BAD", "mean(5, HIGH, 0) ! BAD",
            "mean(5, 1, -1) ! BAD", "mean(5, 1, 2) ! BAD", "mean(5, 1, LOW) ! BAD", "mean(5, 1, HIGH) ! BAD"};
        Run.fresh().rows(wrong);
        Run.rich().rows(wrong);
    }

    private static void never() {
        Run.about("fails by v out of ten (0 to 10)");
        Run.of("plain 9 1 0 1;").rows("luck(0, 0, 8, 1, 0) ! 1", "luck(0, 0, 8, 1, 1) ! 1", "luck(0, 0, 8, 0, 0) ! 0",
                "luck(0, 0, 8, 0, 1) ! 1", "mean(0, 8, 0) ! 8", "mean(0, 8, 1) ! 1");
        Run.of("plain 9 1 0 1;").rows("luck(1, 0, 1, 8, 0) ! 9", "luck(1, 0, 1, 8, 1) ! 10", "mean(1, 1, 0) ! 9",
                "mean(1, 1, 1) ! 10");
    }

    private static void always() {
        Run.about("fails by v out of ten (0 to 10)");
        Run.of("plain 9 1 0 1;").rows("luck(10, 0, 8, 9, 0) ! 1", "luck(10, 0, 8, 9, 1) ! 1", "luck(10, 0, 8, 8, 0) ! 0",
                "luck(10, 0, 8, 8, 1) ! 1", "mean(10, 8, 0) ! 0", "mean(10, 8, 1) ! 1");
        Run.of("plain 9 1 0 1;").rows("luck(9, 0, 1, 8, 0) ! 1", "luck(9, 0, 1, 8, 1) ! 10", "mean(9, 1, 0) ! 1",
                "mean(9, 1, 1) ! 10");
    }

    private static void noVisits() {
        Run.about("Each of n VISITS (0 to 8)");
        for (int v = 0; v <= 10; v += 5) {
            Run.of("plain 9 1 9 9;").rows("luck(" + v + ", 0, 0, 8, 0) ! 0", "luck(" + v + ", 0, 0, 8, 1) ! 1",
                    "luck(" + v + ", 0, 0, 9, 0) ! 1", "luck(" + v + ", 0, 0, 9, 1) ! 1", "mean(" + v + ", 0, 0) ! 0",
                    "mean(" + v + ", 0, 1) ! 1");
        }
    }

    private static void eightVisits() {
        Run.about("Each of n VISITS (0 to 8)");
        // All eight go well by 9 out of ten, each: 1 is left of 9. One of them at least: 8 or fewer are left.
        Run.of("plain 9 1 0 1;").rows("luck(1, 0, 8, 1, 0) ! 43046721", "luck(1, 0, 8, 1, 1) ! 100000000",
                "luck(1, 0, 8, 8, 0) ! 99999999", "luck(1, 0, 8, 8, 1) ! 100000000", "luck(1, 0, 8, 0, 0) ! 0",
                "luck(1, 0, 8, 9, 0) ! 1", "luck(1, 0, 7, 2, 0) ! 4782969", "luck(1, 0, 7, 2, 1) ! 10000000");
        Run.of("plain 9 1 0 1;").rows("mean(1, 8, 0) ! 36", "mean(1, 8, 1) ! 5", "mean(1, 7, 0) ! 63", "mean(1, 7, 1) ! 10");
        Run.rich().asModel("luck(3, 0, 8, 15, 0)", "luck(3, 0, 8, 15, 1)", "luck(7, 1, 8, 6, 0)", "luck(7, 2, 8, 98, 1)",
                "mean(3, 8, 0)", "mean(3, 8, 1)", "mean(7, 7, 0)", "mean(9, 8, 0)");
    }

    private static void queuesOrLess() {
        Run.about("that the QUEUE of a STATION is q (0 to 99) or less behind them");
        Run.of("plain 1 1 0 1;").rows("luck(5, 0, 1, 0, 0) ! 1", "luck(5, 0, 1, 0, 1) ! 2", "luck(5, 0, 1, 1, 0) ! 1",
                "luck(5, 0, 1, 1, 1) ! 1", "luck(5, 0, 1, 99, 1) ! 1");
        Run.of("plain 99 1 0 1;").rows("luck(5, 0, 1, 97, 0) ! 0", "luck(5, 0, 1, 98, 0) ! 1", "luck(5, 0, 1, 98, 1) ! 2",
                "luck(5, 0, 1, 99, 0) ! 1", "luck(5, 0, 1, 99, 1) ! 1", "luck(5, 0, 1, 0, 0) ! 0", "luck(5, 0, 1, 0, 1) ! 1");
        Run.of("plain 0 1 0 1;").rows("luck(5, 0, 8, 0, 0) ! 1", "luck(5, 0, 8, 0, 1) ! 1");
    }

    private static void sendsNone() {
        Run.about("(who has THE WORD SENDS none in it, TIME goes as by none)");
        // Well: TIME 10, 3 come, 11 are there. Failed: TIME 9, 9 are there.
        Run.of("plain 9 1 3 9;").rows("luck(2, 0, 1, 8, 0) ! 0", "luck(2, 0, 1, 9, 0) ! 1", "luck(2, 0, 1, 9, 1) ! 5",
                "luck(2, 0, 1, 10, 0) ! 1", "luck(2, 0, 1, 11, 0) ! 1", "luck(2, 0, 1, 11, 1) ! 1");
        // Failed once TIME is 9, failed twice 18: 3 come by the second one.
        Run.of("plain 9 1 3 9;").rows("luck(10, 0, 1, 9, 0) ! 1", "luck(10, 0, 2, 11, 0) ! 0", "luck(10, 0, 2, 12, 0) ! 1");
        // One that fails is not TIRED then: a fair one that was sends in the next one.
        Run.of("fair 9 3 0 5;").rows("mean(5, 2, 0) ! 9", "mean(5, 2, 1) ! 4", "visits(1) = 3", "mean(5, 1, 0) ! 0",
                "mean(5, 2, 0) ! 3", "mean(5, 2, 1) ! 2");
    }

    private static void lastToFirst() {
        Run.about("by itself");
        // THE WORD goes on from one that fails, from the last one to the first.
        Run.of("plain 9 1 0 1;plain 9 2 0 1;word 1;").rows("luck(4, 1, 1, 7, 0) ! 3", "luck(4, 1, 1, 7, 1) ! 5",
                "luck(4, 0, 1, 8, 0) ! 0", "luck(4, 0, 2, 8, 0) ! 3", "luck(4, 0, 2, 8, 1) ! 5", "luck(4, 1, 2, 7, 0) ! 3",
                "luck(4, 1, 3, 5, 0) ! 9", "luck(4, 1, 3, 5, 1) ! 25", "mean(4, 2, 0) ! 9", "mean(4, 2, 1) ! 5");
    }

    private static void lowestTerms() {
        Run.about("Fractions are in lowest terms, the denominator above 0 (0 is 0 by 1).");
        int[][] odds = {{0, 1, 1}, {1, 9, 10}, {2, 4, 5}, {3, 7, 10}, {4, 3, 5}, {5, 1, 2}, {6, 2, 5}, {7, 3, 10}, {8, 1, 5},
            {9, 1, 10}, {10, 0, 1}};
        for (int[] o : odds) {
            Run.of("plain 9 1 0 1;").rows("luck(" + o[0] + ", 0, 1, 8, 0) ! " + o[1], "luck(" + o[0] + ", 0, 1, 8, 1) ! " + o[2],
                    "mean(" + o[0] + ", 1, 0) ! " + o[1], "mean(" + o[0] + ", 1, 1) ! " + o[2]);
        }
        // Whole numbers are by 1.
        Run.of("plain 9 2 0 1;").rows("mean(5, 1, 0) ! 1", "mean(5, 1, 1) ! 1", "mean(0, 3, 0) ! 6", "mean(0, 3, 1) ! 1");
        Run.of("greedy 99 5 0 1;").rows("mean(5, 8, 0) ! 40", "mean(5, 8, 1) ! 1");
    }

    private static void withoutStations() {
        Run.about("Likewise, the mean of how many are SENT in them: 0, 1. BAD.");
        Run.fresh().rows("mean(0, 0, 0) ! 0", "mean(0, 0, 1) ! 1", "mean(5, 8, 0) ! 0", "mean(5, 8, 1) ! 1", "mean(10, 8, 0) ! 0",
                "mean(10, 8, 1) ! 1");
    }
}
