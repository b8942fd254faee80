/** Promises 21 and 22: visits that fail. */
public final class LuckTest {
    public static void main(String[] args) {
        oneVisit();
        timeGoesAsByNone();
        failingIsNotTiring();
        eachByItself();
        meanSent();
        eightVisits();
        wrong();
        Check.close("LuckTest");
    }

    private static void luck(RingWord x, int v, int i, int n, int q, long above, long below) {
        String call = "luck(" + v + ", " + i + ", " + n + ", " + q + ", ";
        Check.due(call + "0)", x.luck(v, i, n, q, 0), above);
        Check.due(call + "1)", x.luck(v, i, n, q, 1), below);
    }

    private static void mean(RingWord x, int v, int n, long above, long below) {
        String call = "mean(" + v + ", " + n + ", ";
        Check.due(call + "0)", x.mean(v, n, 0), above);
        Check.due(call + "1)", x.mean(v, n, 1), below);
    }

    private static void oneVisit() {
        RingWord x = Check.told("plain 6 2 1 3;meek 3 2 0 2;");
        luck(x, 5, 0, 1, 4, 1, 2);
        luck(x, 3, 0, 1, 4, 7, 10);
        luck(x, 3, 0, 1, 5, 7, 10);
        luck(x, 3, 0, 1, 6, 1, 1);
        luck(x, 3, 0, 1, 3, 0, 1);
        luck(x, 8, 0, 1, 4, 1, 5);
        luck(x, 0, 0, 1, 4, 1, 1);
        luck(x, 10, 0, 1, 4, 0, 1);
        luck(x, 10, 0, 1, 6, 1, 1);
        luck(x, 5, 1, 1, 3, 1, 1);
        luck(x, 5, 1, 1, 2, 0, 1);
        luck(x, 5, 0, 0, 6, 1, 1);
        luck(x, 5, 0, 0, 5, 0, 1);
        luck(x, 5, 0, 8, 99, 1, 1);
    }

    private static void timeGoesAsByNone() {
        RingWord x = Check.told("plain 9 1 3 9;");
        // Sent: TIME 10, 8 and 3 that come. Failed: TIME 9, 9.
        luck(x, 2, 0, 1, 10, 1, 5);
        luck(x, 2, 0, 1, 9, 1, 5);
        luck(x, 2, 0, 1, 8, 0, 1);
        luck(x, 2, 0, 1, 11, 1, 1);
        // Failed twice: TIME 18, 12.
        luck(x, 10, 0, 2, 11, 0, 1);
        luck(x, 10, 0, 2, 12, 1, 1);
    }

    private static void failingIsNotTiring() {
        RingWord x = Check.told("fair 9 3 0 5;");
        luck(x, 5, 0, 2, 6, 3, 4);
        luck(x, 5, 0, 3, 3, 1, 4);
        mean(x, 5, 1, 3, 2);
        mean(x, 5, 2, 9, 4);
        mean(x, 5, 3, 27, 8);
        x.visits(1);
        luck(x, 5, 0, 1, 5, 0, 1);
        luck(x, 5, 0, 2, 3, 1, 2);
    }

    private static void eachByItself() {
        // 1 a visit, by 9 of ten: how many of three are sent, by the odds of three.
        RingWord x = Check.told("plain 9 1 0 1;");
        luck(x, 1, 0, 3, 6, 729, 1000);
        luck(x, 1, 0, 3, 7, 243, 250);
        luck(x, 1, 0, 3, 8, 999, 1000);
        luck(x, 1, 0, 3, 9, 1, 1);
        RingWord two = Check.told("plain 9 1 0 1;plain 9 1 0 1;");
        luck(two, 4, 1, 3, 8, 3, 5);
        luck(two, 4, 0, 3, 7, 9, 25);
        luck(two, 4, 0, 3, 8, 21, 25);
    }

    private static void meanSent() {
        RingWord x = Check.told("plain 9 2 0 1;");
        mean(x, 3, 1, 7, 5);
        mean(x, 3, 2, 14, 5);
        mean(x, 9, 1, 1, 5);
        mean(x, 9, 2, 2, 5);
        mean(x, 0, 2, 4, 1);
        mean(x, 10, 2, 0, 1);
        mean(x, 3, 0, 0, 1);
        // Four visits send 2 each, the fifth the 1 that is left.
        mean(x, 0, 5, 9, 1);
        mean(Check.told("plain 1 1 0 1;"), 5, 2, 3, 4);
        RingWord two = Check.told("plain 9 1 0 1;greedy 9 4 0 1;");
        mean(two, 5, 2, 9, 2);
        two.visits(2);
        mean(two, 5, 1, 1, 2);
    }

    private static void eightVisits() {
        RingWord x = Check.told("greedy 99 9 0 1;");
        // Five that do not fail send 90 of 99, the sixth 9.
        luck(x, 1, 0, 8, 0, 96190821, 100000000);
        luck(x, 1, 0, 8, 98, 99999999, 100000000);
        mean(Check.told("greedy 99 1 0 1;"), 3, 8, 56, 5);
        mean(Check.told("greedy 99 6 0 1;"), 1, 8, 432, 5);
    }

    private static void wrong() {
        RingWord x = Check.told("plain 9 2 0 1;");
        int[][] lucks = {{-1, 0, 1, 1, 0}, {11, 0, 1, 1, 0}, {5, 1, 1, 1, 0}, {5, -1, 1, 1, 0}, {5, 0, -1, 1, 0},
            {5, 0, 9, 1, 0}, {5, 0, 1, -1, 0}, {5, 0, 1, 100, 0}, {5, 0, 1, 1, 2}, {5, 0, 1, 1, -1},
            {5, 0, Integer.MAX_VALUE, 1, 0}, {5, 0, Integer.MIN_VALUE, 1, 0}};
        for (int[] w : lucks) {
            Check.due("luck, wrong", x.luck(w[0], w[1], w[2], w[3], w[4]), -1);
        }
        int[][] means = {{-1, 1, 0}, {11, 1, 0}, {5, -1, 0}, {5, 9, 0}, {5, 1, 2}, {5, 1, -1}};
        for (int[] w : means) {
            Check.due("mean, wrong", x.mean(w[0], w[1], w[2]), -1);
        }
    }
}
