/** Promise 28: by a seed. */
public final class DriftTest {
    public static void main(String[] args) {
        threeStations();
        twoStations();
        queueRunsOver();
        byItself();
        fromNowOn();
        wrong();
        Check.close("DriftTest");
    }

    private static void drift(RingWord x, int seed, int n, int sent, int queues) {
        Check.due("drift(" + seed + ", " + n + ", 0)", x.drift(seed, n, 0), sent);
        Check.due("drift(" + seed + ", " + n + ", 1)", x.drift(seed, n, 1), queues);
    }

    private static void threeStations() {
        // By seed 1 are got 16838, 5758, 10113, 17515: 4 come to 2, 9 to 1, 4 to 0, 9 to 1.
        RingWord x = Check.told("plain 0 9 0 1;plain 0 9 0 1;plain 0 9 0 1;");
        drift(x, 1, 1, 0, 4);
        drift(x, 1, 2, 9, 4);
        drift(x, 1, 3, 13, 4);
        drift(x, 1, 4, 17, 9);
    }

    private static void twoStations() {
        // By seed -1 are got 15929, 4409, 9862, 26718: 1 comes to 1, 1 to 1, 2 to 0, 9 to 0. Bit 31 is not got.
        RingWord x = Check.told("plain 0 2 0 1;plain 0 2 0 1;");
        int[] seeds = {-1, Integer.MAX_VALUE};
        for (int seed : seeds) {
            drift(x, seed, 1, 0, 1);
            drift(x, seed, 2, 2, 0);
            drift(x, seed, 3, 4, 0);
            drift(x, seed, 4, 4, 9);
        }
    }

    private static void queueRunsOver() {
        // By seed 0 come 0, 3, 8, 4.
        RingWord x = Check.told("plain 95 1 0 1;");
        int[] seeds = {0, Integer.MIN_VALUE};
        for (int seed : seeds) {
            drift(x, seed, 1, 1, 94);
            drift(x, seed, 2, 2, 96);
            drift(x, seed, 3, 3, 98);
            drift(x, seed, 4, 4, 98);
        }
    }

    private static void byItself() {
        RingWord x = Check.told("plain 6 2 1 3;meek 3 2 0 2;");
        String before = Check.state(x);
        drift(x, 7, 90, 141, 194);
        Check.holds("nothing is changed", before.equals(Check.state(x)));
        drift(x, 7, 90, 141, 194);
    }

    private static void fromNowOn() {
        RingWord x = Check.told("plain 95 1 0 9;");
        x.visits(1);
        x.alter(0, 3, 3);
        // 94 at TIME 10, 93 behind the visit, and 3 more by TIME 20.
        drift(x, 0, 1, 1, 96);
    }

    private static void wrong() {
        RingWord x = Check.told("plain 6 2 1 3;");
        int[][] wrong = {{0, 0}, {-1, 0}, {201, 0}, {1, 2}, {1, -1}, {Integer.MIN_VALUE, 0}};
        RingWord none = new RingWord();
        for (int[] w : wrong) {
            Check.due("drift, wrong", x.drift(5, w[0], w[1]), -1);
            Check.due("drift, wrong and no stations", none.drift(5, w[0], w[1]), -1);
        }
        Check.due("no stations", none.drift(5, 1, 0), -2);
        Check.due("no stations, queues", none.drift(5, 200, 1), -2);
        Check.holds("drift(5, 200, 0)", x.drift(5, 200, 0) > 0);
    }
}
