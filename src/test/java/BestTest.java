/** Promises 16 to 20: what had better be. */
public final class BestTest {
    public static void main(String[] args) {
        kindOfMost();
        holdOfFewest();
        swapForMost();
        passForFewest();
        beginForLeast();
        wrong();
        Check.close("BestTest");
    }

    private static void kind(RingWord x, int i, int n, int best, int most) {
        Check.due("kind(" + i + ", " + n + ", 0)", x.kind(i, n, 0), best);
        Check.due("kind(" + i + ", " + n + ", 1)", x.kind(i, n, 1), most);
    }

    private static void kindOfMost() {
        RingWord x = Check.told("fair 20 2 0 1;plain 9 1 0 1;");
        kind(x, 0, 0, 0, 0);
        kind(x, 0, 1, 1, 4);
        kind(x, 0, 2, 1, 5);
        kind(x, 0, 4, 1, 10);
        kind(x, 1, 1, 0, 2);
        kind(x, 1, 2, 1, 4);
        RingWord alike = Check.told("greedy 1 1 0 1;");
        kind(alike, 0, 3, 0, 1);
        RingWord tired = Check.told("fair 9 3 0 5;");
        tired.visits(1);
        kind(tired, 0, 1, 1, 6);
        Check.due("its kind stays", tired.station(0, 0), 3);
        // The second sends 3 if plain, 5 if greedy, 2 if meek or fair: the third has a longer queue.
        RingWord longer = Check.told("plain 2 1 0 1;meek 5 3 0 1;greedy 6 1 0 1;");
        kind(longer, 1, 2, 1, 1 + 5);
        // A fair first one sends none in its second visit and so 6 in its third: 4, 3, 0, 0, 6, 3; else 15.
        kind(Check.told("plain 4 6 3 2;meek 3 6 1 6;"), 0, 6, 3, 16);
        RingWord full = Check.told("greedy 99 9 0 9;");
        kind(full, 0, 200, 0, 99);
        kind(full, 0, 6, 1, 99);
        kind(full, 0, 10, 1, 99);
        kind(full, 0, 11, 0, 99);
    }

    private static void hold(RingWord x, int i, int n, int best, int fewest) {
        Check.due("hold(" + i + ", " + n + ", 0)", x.hold(i, n, 0), best);
        Check.due("hold(" + i + ", " + n + ", 1)", x.hold(i, n, 1), fewest);
    }

    private static void holdOfFewest() {
        RingWord none = Check.told("plain 50 7 0 3;");
        hold(none, 0, 200, 1, 0);
        hold(none, 0, 0, 1, 0);
        // From TIME 0 by LINK 9: 9 come once, if TIME is 10 to 19 then, and as many go: so 9 lost less HOLD.
        RingWord one = Check.told("plain 99 4 9 9;");
        hold(one, 0, 1, 9, 0);
        one.alter(0, 3, 5);
        hold(one, 0, 1, 5, 0);
        one.alter(0, 4, 1);
        hold(one, 0, 1, 1, 0);
        // Greedy by HOLD 1 to 9, worked out by hand: 14, 10, 15, 11, 7, 12, 8, 13, 9 are lost.
        RingWord greedy = Check.told("greedy 99 9 9 9;");
        hold(greedy, 0, 2, 5, 7);
        // By HOLD 1 to 9 TIME is 10 to 18, 9 are lost; the other queue has room.
        RingWord other = Check.told("plain 99 1 0 9;plain 99 1 9 1;");
        hold(other, 0, 1, 1, 9);
        hold(other, 1, 1, 1, 9);
        other.alter(0, 1, 0);
        hold(other, 0, 1, 1, 0);
        Check.due("its hold stays", other.station(0, 2), 1);
        other.post(1, 99);
        hold(other, 0, 1, 1, 0);
    }

    private static void swap(RingWord x, int n, int best, int most) {
        Check.due("swap(" + n + ", 0)", x.swap(n, 0), best);
        Check.due("swap(" + n + ", 1)", x.swap(n, 1), most);
    }

    private static void swapForMost() {
        swap(Check.told("plain 0 1 0 1;plain 9 5 0 1;"), 1, 1, 5);
        swap(Check.told("plain 1 1 0 1;plain 0 9 0 1;plain 9 5 0 1;"), 1, 2, 5);
        swap(Check.told("plain 0 1 0 1;plain 9 5 0 1;plain 9 5 0 1;"), 1, 1, 5);
        swap(Check.told("plain 0 1 0 1;plain 9 4 0 1;plain 9 5 0 1;"), 1, 2, 5);
        swap(Check.told("plain 0 1 0 1;plain 0 1 0 1;plain 9 5 0 1;word 1;"), 1, 12, 5);
        swap(Check.told("plain 9 5 0 1;plain 0 1 0 1;plain 9 5 0 1;word 1;"), 1, 1, 5);
        swap(Check.told("plain 1 1 0 1;plain 1 1 0 1;plain 1 1 0 1;plain 0 1 0 1;plain 9 5 0 1;word 3;"), 1, 34, 5);
        swap(Check.told("plain 9 5 0 1;plain 9 5 0 1;"), 1, -4, -4);
        swap(Check.told("plain 9 5 0 1;plain 0 1 0 1;"), 1, -4, -4);
        swap(Check.told("plain 0 1 0 1;plain 9 5 0 1;"), 0, -4, -4);
        swap(Check.told("plain 0 1 0 1;plain 9 5 0 1;"), 2, -4, -4);
        swap(Check.told("plain 9 1 0 1;"), 5, -4, -4);
        // All goes along with a station: the tired one, from the place that comes next, sends none there.
        RingWord tired = Check.told("fair 9 5 0 1;plain 9 2 0 1;");
        tired.visits(2);
        swap(tired, 1, 1, 2);
        tired.give(1);
        swap(tired, 1, -4, -4);
    }

    private static void pass(RingWord x, int n, int best, int fewest) {
        Check.due("pass(" + n + ", 0)", x.pass(n, 0), best);
        Check.due("pass(" + n + ", 1)", x.pass(n, 1), fewest);
    }

    private static void passForFewest() {
        RingWord first = Check.told("greedy 99 9 0 1;plain 99 1 9 1;");
        pass(first, 0, -4, -4);
        pass(first, 1, 0, 0);
        pass(first, 2, 0, 0);
        RingWord second = Check.told("plain 99 1 9 9;greedy 99 9 0 9;");
        // As it is: 8 lost by TIME 10, 18 by 37. Without the second: 8, TIME 19. Without the first: 27 by 36.
        Check.due("as it is", second.runs(2, 2), 26);
        pass(second, 2, 1, 8);
        RingWord alike = Check.told("greedy 99 9 0 1;greedy 99 9 0 1;plain 99 1 9 1;");
        Check.due("as it is", alike.runs(2, 2), 27);
        pass(alike, 2, 0, 18);
        pass(Check.told("plain 50 1 1 1;meek 50 1 1 1;"), 10, -4, -4);
        pass(Check.told("greedy 99 9 9 9;"), 2, -4, -4);
        // A fair one that is passed by is not tired: it is passed by each time, the other one sends on.
        RingWord fair = Check.told("fair 99 9 0 1;plain 99 1 9 1;");
        pass(fair, 3, 0, 0);
    }

    private static void begin(RingWord x, int n, int best, int least) {
        Check.due("begin(" + n + ", 0)", x.begin(n, 0), best);
        Check.due("begin(" + n + ", 1)", x.begin(n, 1), least);
    }

    private static void beginForLeast() {
        RingWord x = Check.told("plain 9 5 0 9;plain 1 1 0 1;plain 0 1 0 3;word 2;");
        begin(x, 0, 0, 0);
        begin(x, 1, 1, 2);
        begin(x, 2, 1, 5);
        begin(x, 3, 0, 19);
        x.visits(1);
        Check.due("TIME", x.rule(2), 3);
        begin(x, 1, 1, 2);
        x.alter(1, 1, 9);
        x.alter(1, 2, 2);
        begin(x, 1, 1, 3);
        Check.due("the word stays", x.rule(1), 0);
        begin(Check.told("plain 0 1 0 9;plain 0 1 0 9;plain 0 1 0 8;"), 1, 2, 8);
        begin(Check.told("plain 0 1 0 9;plain 0 1 0 9;"), 200, 0, 1800);
    }

    private static void wrong() {
        RingWord x = Check.told("plain 0 1 0 1;plain 9 5 0 1;");
        int[][] ofStation = {{2, 1, 0}, {-1, 1, 0}, {0, -1, 0}, {0, 201, 0}, {0, 1, 2}, {0, 1, -1}};
        for (int[] w : ofStation) {
            Check.due("kind, wrong", x.kind(w[0], w[1], w[2]), -1);
            Check.due("hold, wrong", x.hold(w[0], w[1], w[2]), -1);
        }
        int[][] ofAll = {{-1, 0}, {201, 0}, {1, 2}, {1, -1}, {Integer.MIN_VALUE, 0}, {Integer.MAX_VALUE, 0}};
        RingWord none = new RingWord();
        for (int[] w : ofAll) {
            Check.due("swap, wrong", x.swap(w[0], w[1]), -1);
            Check.due("pass, wrong", x.pass(w[0], w[1]), -1);
            Check.due("begin, wrong", x.begin(w[0], w[1]), -1);
            Check.due("begin, wrong and none", none.begin(w[0], w[1]), -1);
            Check.due("swap, wrong and none", none.swap(w[0], w[1]), -1);
            Check.due("pass, wrong and none", none.pass(w[0], w[1]), -1);
        }
        Check.due("swap of 200", x.swap(200, 0), -4);
        Check.due("pass of 200", x.pass(200, 0), -4);
        Check.due("begin of 200", x.begin(200, 0), 0);
    }
}
