/** Promises 23 to 27: told from queues. */
public final class SeenTest {
    public static void main(String[] args) {
        seeing();
        forgetting();
        kindsLeft();
        gainsLeft();
        ofOtherStations();
        fromNowOn();
        asking();
        askingWhenQueuesRunOver();
        askingOfSeveral();
        wrong();
        Check.close("SeenTest");
    }

    private static void seeing() {
        RingWord x = Check.told("plain 20 3 2 7;meek 9 1 0 1;");
        int[][] wrong = {{-1, 0, 0}, {41, 0, 0}, {0, 2, 0}, {0, -1, 0}, {0, 0, -1}, {0, 0, 100}};
        for (int[] w : wrong) {
            Check.due("see, wrong", x.see(w[0], w[1], w[2]), -1);
        }
        Check.due("nothing is seen", x.count(0), 0);
        Check.due("see(0, 0, 0)", x.see(0, 0, 0), 1);
        Check.due("see(40, 1, 99)", x.see(40, 1, 99), 2);
        for (int j = 3; j <= 6; j++) {
            Check.due("see, " + j, x.see(1, 1, 1), j);
        }
        Check.due("see, the seventh", x.see(1, 1, 1), -3);
        Check.due("see, the seventh, wrong", x.see(1, 2, 1), -1);
        Check.due("six are seen", x.count(0), 6);
        Check.due("kinds by six", x.kinds(0), 0);
        Check.due("gains by six", x.gains(1), 0);
        Check.due("the queue is not changed by it", x.station(0, 1), 20);
    }

    private static void forgetting() {
        RingWord x = Check.told("plain 20 3 2 7;");
        Check.due("forget(0) of none", x.forget(0), 0);
        Check.due("forget(1) of none", x.forget(1), -1);
        x.see(1, 0, 19);
        x.see(2, 0, 18);
        x.see(3, 0, 50);
        Check.due("all but the last fit", x.gains(0), 0);
        Check.due("forget(4)", x.forget(4), -1);
        Check.due("forget(-1)", x.forget(-1), -1);
        Check.due("forget(3)", x.forget(3), 3);
        Check.due("still three", x.count(0), 3);
        Check.due("forget(2)", x.forget(2), 3);
        Check.due("two are seen", x.count(0), 2);
        Check.due("the first two fit", x.gains(0), 4);
        Check.due("forget(0)", x.forget(0), 2);
        Check.due("nothing is seen", x.gains(0), 1023);
        Check.due("see again", x.see(0, 0, 3), 1);
        Check.due("that alone", x.gains(0), 0);
    }

    private static void kindsLeft() {
        RingWord x = Check.told("plain 20 3 2 7;");
        Check.due("all kinds", x.kinds(0), 15);
        x.see(0, 0, 20);
        Check.due("all kinds now", x.kinds(0), 15);
        x.see(1, 0, 19);
        Check.due("not greedy", x.kinds(0), 13);
        x.see(2, 0, 18);
        Check.due("nor fair", x.kinds(0), 5);
        x.see(1, 0, 18);
        Check.due("none at all", x.kinds(0), 0);
        x.forget(0);
        // Greedy sends 6: TIME 13, 14 and 2 are left.
        x.see(1, 0, 16);
        Check.due("greedy alone", x.kinds(0), 2);
        x.forget(0);
        // Fair: 19 behind one visit, TIME 10; TIME 17 then: 19 still.
        x.see(2, 0, 19);
        Check.due("fair alone", x.kinds(0), 8);
        x.forget(0);
        x.see(0, 0, 19);
        Check.due("not as it is now", x.kinds(0), 0);
        Check.due("its kind stays", x.station(0, 0), 0);
    }

    private static void gainsLeft() {
        RingWord x = Check.told("plain 20 3 2 7;");
        Check.due("all gains", x.gains(0), 1023);
        for (int g = 0; g <= 9; g++) {
            x.see(1, 0, 17 + g);
            Check.due("gain " + g, x.gains(0), 1 << g);
            x.forget(0);
        }
        x.see(1, 0, 27);
        Check.due("none", x.gains(0), 0);
        x.forget(0);
        x.alter(0, 4, 6);
        x.see(1, 0, 17);
        Check.due("TIME 9: all", x.gains(0), 1023);
        x.see(2, 0, 23);
        Check.due("TIME 18: one", x.gains(0), 1 << 9);
        Check.due("its gain stays", x.station(0, 3), 2);
        RingWord far = Check.told("plain 80 1 0 9;");
        far.see(40, 0, 40);
        Check.due("behind forty", far.gains(0), 1);
        Check.due("kinds behind forty", far.kinds(0), 5);
    }

    private static void ofOtherStations() {
        RingWord x = Check.told("meek 9 3 0 1;plain 9 1 1 8;");
        x.see(2, 1, 9);
        // The second: 9 behind one visit, 8 and what comes by TIME 4 to 13 behind two.
        Check.due("gains of the second", x.gains(1), 2);
        Check.due("gains of the first", x.gains(0), 1023);
        x.forget(0);
        x.see(2, 0, 6);
        Check.due("gains of the first, its own queue", x.gains(0), 1);
        Check.due("gains of the second, by the first", x.gains(1), 1023);
        x.see(3, 0, 4);
        // The third visit: meek, of 6: 2 if the second queue is longer, that is 8 and any gain.
        Check.due("gains of the second, by the third visit", x.gains(1), 1023);
        x.forget(1);
        x.see(3, 0, 3);
        Check.due("gains of the second, by what it would not do", x.gains(1), 0);
        Check.due("kinds of the first", x.kinds(0), 1);
    }

    private static void fromNowOn() {
        RingWord x = Check.told("plain 20 3 2 7;");
        x.see(1, 0, 18);
        Check.due("not from the beginning on", x.gains(0), 2);
        x.visits(1);
        Check.due("still seen", x.count(0), 1);
        Check.due("from now on", x.gains(0), 4);
    }

    private static void ask(RingWord x, int i, int first, int left) {
        Check.due("ask(" + i + ", 0)", x.ask(i, 0), first);
        Check.due("ask(" + i + ", 1)", x.ask(i, 1), left);
    }

    private static void asking() {
        ask(Check.told("plain 20 3 2 7;"), 0, 1, 1);
        ask(Check.told("plain 0 3 2 1;"), 0, 10, 1);
        ask(Check.told("plain 0 3 2 1;plain 0 1 1 1;plain 0 1 1 2;"), 0, 8, 1);
        ask(Check.told("plain 20 3 2 1;plain 20 1 1 9;"), 1, 2, 1);
        RingWord x = Check.told("plain 20 3 2 7;");
        x.see(1, 0, 19);
        ask(x, 0, -4, -4);
        x.see(1, 0, 20);
        Check.due("none is left", x.gains(0), 0);
        ask(x, 0, -4, -4);
    }

    private static void askingWhenQueuesRunOver() {
        // Behind one visit 98 or, by any gain, 99; and so on: a gain of 1 makes good what goes.
        RingWord x = Check.told("plain 99 1 0 9;");
        ask(x, 0, 1, 9);
        x.see(1, 0, 99);
        Check.due("nine are left", x.gains(0), 1022);
        ask(x, 0, -4, -4);
        // 95 and 0 to 9 behind one visit: 4 to 9 fill it. Later they do so too, the others grow less.
        RingWord y = Check.told("plain 99 4 0 6;");
        ask(y, 0, 1, 6);
        RingWord z = Check.told("plain 99 8 0 2;");
        ask(z, 0, 1, 2);
    }

    private static void askingOfSeveral() {
        // The first visit takes TIME 11: letters come to both, and no queue runs over.
        RingWord x = Check.told("greedy 11 1 0 9;plain 50 2 0 9;");
        ask(x, 1, 1, 1);
        ask(x, 0, 1, 1);
        // Gains 0 to 9, told apart at 1 but for those from 4 on, all of them at 99 then.
        RingWord full = Check.told("plain 98 3 0 7;");
        ask(full, 0, 1, 6);
        full.see(1, 0, 99);
        Check.due("those from 4 on", full.gains(0), 1023 - 15);
        ask(full, 0, -4, -4);
        // Later looks tell more: worked out by Model.
        ask(Check.told("meek 99 2 6 6;meek 63 6 7 7;"), 0, 13, 8);
        ask(Check.told("plain 99 4 1 1;fair 57 4 1 4;"), 0, 37, 2);
        ask(Check.told("fair 51 1 1 8;greedy 94 9 7 4;"), 1, 40, 1);
    }

    private static void wrong() {
        RingWord x = Check.told("plain 20 3 2 7;");
        int[] none = {-1, 1, Integer.MIN_VALUE, Integer.MAX_VALUE};
        for (int i : none) {
            Check.due("kinds, no such station", x.kinds(i), -1);
            Check.due("gains, no such station", x.gains(i), -1);
            Check.due("ask, no such station", x.ask(i, 0), -1);
        }
        Check.due("ask(0, 2)", x.ask(0, 2), -1);
        Check.due("ask(0, -1)", x.ask(0, -1), -1);
    }
}
