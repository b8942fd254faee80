/** Promises 31 to 35: sheets, their faults, and how many there are. */
public final class SheetTest {
    private static final int LOW = Integer.MIN_VALUE;
    private static final int HIGH = Integer.MAX_VALUE;

    public static void main(String[] args) {
        newSheets();
        laying();
        lowestBits();
        reading();
        readingFromOn();
        refusedByPost();
        refusedByTheMachine();
        firstMet();
        tornStays();
        wrongToRead();
        manyAtOnce();
        counts();
        Check.close("SheetTest");
    }

    private static void newSheets() {
        RingWord x = new RingWord();
        Check.due("sheet(0, 0, 0)", x.sheet(0, 0, 0), 1);
        Check.due("no cells", x.count(3), 0);
        Check.due("sheet(0, 1, 40)", x.sheet(0, 1, 40), 1);
        Check.due("forty", x.count(3), 40);
        int[][] wrong = {{-1, 0, 1}, {4, 0, 1}, {0, -1, 1}, {0, 3, 1}, {0, 0, 41}, {0, 0, HIGH}, {4, 0, -1}, {0, 3, -1},
            {HIGH, 0, 1}, {0, LOW, 1}};
        for (int[] w : wrong) {
            Check.due("sheet, wrong", x.sheet(w[0], w[1], w[2]), -1);
        }
        Check.due("sheet(0, 0, -1)", x.sheet(0, 0, -1), -14);
        Check.due("sheet(0, 0, low)", x.sheet(0, 0, LOW), -14);
        Check.due("refused", x.count(3), 40);
        Check.due("sheet(3, 2, 1)", x.sheet(3, 2, 1), 1);
        Check.due("sheet 0 stays", x.count(3), 40);
        Check.due("sheet(2, 1, -1)", x.sheet(2, 1, -1), -14);
        Check.due("still nothing", x.lay(2, 0, 1), -11);
    }

    private static void laying() {
        RingWord x = new RingWord();
        x.sheet(1, 0, 3);
        Check.due("lay(1, 0, 1)", x.lay(1, 0, 1), 1);
        Check.due("lay(1, 2, 1)", x.lay(1, 2, 1), 1);
        int[] outside = {-1, 3, 39, 40, LOW, HIGH};
        for (int i : outside) {
            Check.due("lay(1, " + i + ", 1)", x.lay(1, i, 1), -12);
            Check.due("lay(0, " + i + ", 1)", x.lay(0, i, 1), -11);
            Check.due("lay(4, " + i + ", 1)", x.lay(4, i, 1), -1);
            Check.due("lay(-1, " + i + ", 1)", x.lay(-1, i, 1), -1);
        }
        x.sheet(1, 0, 0);
        Check.due("lay on no cells", x.lay(1, 0, 1), -12);
        x.sheet(1, 0, 4);
        RingWord y = Check.told("plain 0 1 0 1;");
        y.sheet(1, 2, 4);
        y.lay(1, 1, 7);
        y.sheet(1, 2, 4);
        y.read(1, 2, 0, 1);
        Check.due("a new row is of 0", y.station(0, 1), 0);
        for (int i = 0; i < 4; i++) {
            y.lay(1, i, 5);
        }
        y.sheet(1, 2, 4);
        Check.due("all of it", y.read(1, 2, 0, 2), 2);
    }

    /** What station and number one pair gives; the answer of read(). */
    private static int pair(RingWord x, int lane, int i, int n) {
        x.sheet(0, lane, 2);
        x.lay(0, 0, i);
        x.lay(0, 1, n);
        return x.read(0, lane, 0, 1);
    }

    private static void lowestBits() {
        RingWord x = Check.told("plain 0 1 0 1;plain 0 1 0 1;");
        Check.due("byte 257, 256 + 5", pair(x, 0, 257, 261), 1);
        Check.due("queue", x.station(1, 1), 5);
        Check.due("byte 127", pair(x, 0, 0, 127), -20);
        Check.due("byte 128", pair(x, 0, 0, 128), -20);
        Check.due("byte 255", pair(x, 0, 0, 255), -20);
        Check.due("byte -156 is 100", pair(x, 0, 0, -156), -20);
        Check.due("byte -157 is 99", pair(x, 0, 0, -157), 1);
        Check.due("queue 99", x.station(0, 1), 99);
        Check.due("byte 256: first", pair(x, 0, 256, 0), 1);
        Check.due("byte 255: no station", pair(x, 0, 255, 0), -20);
        Check.due("short 257", pair(x, 1, 257, 0), -20);
        Check.due("short 65537, 65536 + 5", pair(x, 1, 65537, 65541), 1);
        Check.due("queue 10", x.station(1, 1), 10);
        Check.due("short 65535", pair(x, 1, 0, 65535), -20);
        Check.due("short 32768", pair(x, 1, 0, 32768), -20);
        Check.due("int 65537", pair(x, 2, 65537, 0), -20);
        Check.due("int 65541", pair(x, 2, 1, 65541), -20);
        Check.due("int low", pair(x, 2, 0, LOW), -20);
        Check.due("int 1, 5", pair(x, 2, 1, 5), 1);
        Check.due("queue 15", x.station(1, 1), 15);
    }

    private static void lay(RingWord x, int k, int... cells) {
        for (int i = 0; i < cells.length; i++) {
            x.lay(k, i, cells[i]);
        }
    }

    private static void reading() {
        RingWord x = Check.told("plain 0 1 0 1;plain 90 1 0 1;");
        x.sheet(2, 1, 6);
        lay(x, 2, 0, 4, 1, 20, 0, 96);
        Check.due("read of three", x.read(2, 1, 0, 3), 3);
        Check.due("first queue", x.station(0, 1), 99);
        Check.due("second queue", x.station(1, 1), 99);
        Check.due("lost", x.rule(5), 11 + 1);
        Check.due("torn()", x.torn(), 0);
        Check.due("no time goes", x.rule(2), 0);
        Check.due("read of two again", x.read(2, 1, 0, 2), 2);
        Check.due("lost more", x.rule(5), 12 + 24);
    }

    private static void readingFromOn() {
        RingWord x = Check.told("plain 0 1 0 1;plain 0 1 0 1;");
        x.sheet(0, 0, 6);
        lay(x, 0, 9, 1, 3, 0, 4, 9);
        Check.due("from cell 1", x.read(0, 0, 1, 2), 2);
        Check.due("3 to the second", x.station(1, 1), 3);
        Check.due("4 to the first", x.station(0, 1), 4);
        Check.due("from cell 3", x.read(0, 0, 3, 1), 1);
        Check.due("4 more", x.station(0, 1), 8);
        Check.due("none", x.read(0, 0, 0, 0), 0);
        Check.due("none is torn", x.torn(), 0);
    }

    private static void refusedByPost() {
        RingWord x = Check.told("plain 0 1 0 1;plain 0 1 0 1;");
        int[][] wrong = {{2, 1}, {-1, 1}, {0, -1}, {0, 100}, {HIGH, HIGH}};
        for (int[] w : wrong) {
            for (int at = 0; at < 3; at++) {
                x.sheet(0, 2, 6);
                lay(x, 0, 0, 1, 1, 1, 0, 1);
                x.lay(0, 2 * at, w[0]);
                x.lay(0, 2 * at + 1, w[1]);
                Check.due("refused at " + at, x.read(0, 2, 0, 3), -20 - at);
                Check.due("none came", x.rule(6), 0);
            }
        }
        RingWord none = new RingWord();
        none.sheet(0, 0, 2);
        Check.due("no station at all", none.read(0, 0, 0, 1), -20);
    }

    private static void machine(RingWord x, int lane, int f, int n, int came, int torn) {
        String call = "read(0, " + lane + ", " + f + ", " + n + ")";
        Check.due(call, x.read(0, lane, f, n), came);
        Check.due("torn() of " + call, x.torn(), torn);
    }

    private static void refusedByTheMachine() {
        RingWord x = Check.told("plain 0 1 0 1;");
        machine(x, 0, 0, 1, 0, 1);
        machine(x, 2, -5, 20, 0, 1);
        for (int lane = 0; lane <= 2; lane++) {
            x.sheet(0, lane, 5);
            x.alter(0, 1, 0);
            lay(x, 0, 0, 1, 0, 2, 0);
            machine(x, lane, 0, 2, 2, 0);
            Check.due("3 came", x.station(0, 1), 3);
            machine(x, lane, 0, 3, 2, 2);
            Check.due("3 more came", x.station(0, 1), 6);
            machine(x, lane, 4, 1, 0, 2);
            machine(x, lane, 5, 1, 0, 2);
            machine(x, lane, -1, 1, 0, 2);
            machine(x, lane, -2, 2, 0, 2);
            machine(x, lane, LOW, 1, 0, 2);
            machine(x, lane, HIGH, 20, 0, 2);
            machine(x, lane, HIGH - 1, 20, 0, 2);
            machine(x, lane, 2, 20, 1, 2);
            Check.due("2 more came", x.station(0, 1), 8);
            for (int other = 0; other <= 2; other++) {
                if (other != lane) {
                    machine(x, other, 0, 1, 0, 3);
                    machine(x, other, -1, 1, 0, 3);
                }
            }
            Check.due("no more came", x.station(0, 1), 8);
        }
        x.sheet(0, 1, 0);
        machine(x, 1, 0, 1, 0, 2);
        machine(x, 0, 0, 1, 0, 3);
    }

    private static void firstMet() {
        RingWord x = Check.told("plain 0 1 0 1;");
        x.sheet(0, 0, 3);
        lay(x, 0, 1, 1, 0);
        Check.due("refused ahead of the index", x.read(0, 0, 0, 2), -20);
        lay(x, 0, 0, 1, 7);
        Check.due("the index ahead of no such station", x.read(0, 0, 0, 2), 1);
        Check.due("torn()", x.torn(), 2);
        Check.due("1 came", x.station(0, 1), 1);
        lay(x, 0, 7, 1, 7);
        Check.due("the lane ahead of all", x.read(0, 1, 0, 2), 0);
        Check.due("torn(), the lane", x.torn(), 3);
    }

    private static void tornStays() {
        RingWord x = Check.told("plain 0 1 0 1;");
        Check.due("of none", x.torn(), 0);
        x.sheet(0, 0, 2);
        x.read(0, 1, 0, 1);
        Check.due("the lane", x.torn(), 3);
        Check.due("BAD", x.read(4, 0, 0, 1), -1);
        Check.due("of the one ahead", x.torn(), 3);
        x.lay(0, 0, 1);
        Check.due("refused", x.read(0, 0, 0, 1), -20);
        Check.due("of the one ahead, still", x.torn(), 3);
        x.lay(0, 0, 0);
        Check.due("read", x.read(0, 0, 0, 1), 1);
        Check.due("of this one", x.torn(), 0);
        x.read(1, 0, 0, 1);
        Check.tell(x, "plain 0 1 0 1;");
        Check.due("not of the text", x.torn(), 1);
        Check.due("lay does not tear", x.lay(1, 0, 0), -11);
        Check.due("sheet does not tear", x.sheet(1, 0, -1), -14);
        Check.due("torn() then", x.torn(), 1);
    }

    private static void wrongToRead() {
        RingWord x = Check.told("plain 0 1 0 1;");
        x.sheet(0, 0, 40);
        int[][] wrong = {{-1, 0, 0, 1}, {4, 0, 0, 1}, {0, -1, 0, 1}, {0, 3, 0, 1}, {0, 0, 0, -1}, {0, 0, 0, 21},
            {LOW, 0, 0, 1}, {0, HIGH, 0, 1}, {0, 0, 0, HIGH}, {1, 0, 0, 21}};
        for (int[] w : wrong) {
            Check.due("read, wrong", x.read(w[0], w[1], w[2], w[3]), -1);
        }
    }

    private static void manyAtOnce() {
        RingWord x = Check.told("plain 0 1 0 1;");
        x.sheet(3, 0, 40);
        for (int j = 0; j < 20; j++) {
            x.lay(3, 2 * j + 1, 4);
        }
        Check.due("twenty", x.read(3, 0, 0, 20), 20);
        Check.due("eighty letters", x.station(0, 1), 80);
        Check.due("nineteen from cell 2, of twenty", x.read(3, 0, 2, 20), 19);
        Check.due("torn()", x.torn(), 2);
        Check.due("99", x.station(0, 1), 99);
        Check.due("lost", x.rule(5), 76 - 19);
    }

    private static void counts() {
        RingWord x = Check.told("plain 0 1 2 9;greedy 0 1 4 8;fair 0 1 9 7;");
        Check.due("seen", x.count(0), 0);
        x.see(1, 1, 1);
        Check.due("seen, 1", x.count(0), 1);
        x.keep(1);
        Check.due("images, 1", x.count(1), 1);
        x.feed('p');
        x.feed('l');
        Check.due("bytes", x.count(2), 2);
        Check.due("cells of nothing", x.count(3), -4);
        x.sheet(1, 0, 7);
        Check.due("cells of nothing, still", x.count(3), -4);
        x.sheet(0, 2, 8);
        Check.due("cells", x.count(3), 8);
        Check.due("links", x.count(4), 24);
        Check.due("gains", x.count(5), 15);
        Check.due("count(6)", x.count(6), -1);
        Check.due("count(-1)", x.count(-1), -1);
        Check.due("count(low)", x.count(LOW), -1);
        Check.due("count(high)", x.count(HIGH), -1);
    }
}
