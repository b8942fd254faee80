/** The boundary cases of promises 31 to 35, and of what 'Terms' says of SHEETS and their FAULTS. */
public final class SheetEdgeTest {
    private static final String TWO = "plain 0 1 0 1;plain 0 1 0 1;";
    private static final String[] WRONG_SHEETS = {"-1", "4", "LOW", "HIGH"};
    private static final String[] WRONG_LANES = {"-1", "3", "LOW", "HIGH"};

    public static void main(String[] args) {
        newSheet();
        newSheetRefused();
        newSheetIsOfNoughts();
        laid();
        laidLowestBits();
        readNumbers();
        readWhole();
        readHalf();
        readNull();
        readIndex();
        readCast();
        readRefused();
        readFirstMet();
        readNone();
        torn();
        counts();
        Check.close("SheetEdgeTest");
    }

    private static void newSheet() {
        Run.about("SHEETS 0 to 3 are rows of BYTES (lane 0), SHORTS (1), INTS (2) with 0 to 40 CELLS, or nothing (at first).");
        for (int k = 0; k <= 3; k++) {
            for (int lane = 0; lane <= 2; lane++) {
                String sheet = "sheet(" + k + ", " + lane + ", ";
                Run.of(TWO).rows("lay(" + k + ", 0, 0) ! -11", sheet + "0) = 1", "lay(" + k + ", 0, 0) ! -12", sheet + "1) = 1",
                        "lay(" + k + ", 0, 0) = 1", "lay(" + k + ", 1, 0) ! -12", sheet + "40) = 1",
                        "lay(" + k + ", 39, 0) = 1", "lay(" + k + ", 40, 0) ! -12", sheet + "0) = 1",
                        "lay(" + k + ", 0, 0) ! -12");
                // The others stay nothing.
                Run.fresh().rows(sheet + "5) = 1", "lay(" + (k + 1) % 4 + ", 0, 0) ! -11", "lay(" + (k + 3) % 4 + ", 0, 0) ! -11");
            }
        }
    }

    private static void newSheetRefused() {
        Run.about("A SHEET is a new row of CELLS 0: 1. BAD: also n above 40; -10 - 4.");
        Run[] all = {Run.fresh(), Run.rich()};
        for (Run run : all) {
            for (String k : WRONG_SHEETS) {
                run.rows("sheet(" + k + ", 0, 1) ! BAD", "sheet(" + k + ", 0, 0) ! BAD");
            }
            for (String lane : WRONG_LANES) {
                run.rows("sheet(0, " + lane + ", 1) ! BAD", "sheet(3, " + lane + ", 0) ! BAD");
            }
            for (int lane = 0; lane <= 2; lane++) {
                run.rows("sheet(0, " + lane + ", 41) ! BAD", "sheet(0, " + lane + ", HIGH) ! BAD",
                        "sheet(0, " + lane + ", -1) ! -14", "sheet(3, " + lane + ", LOW) ! -14");
            }
        }
        Run.about("the first that fits");
        Run.rich().rows("sheet(4, 0, -1) ! BAD", "sheet(-1, 0, -1) ! BAD", "sheet(0, 3, -1) ! BAD", "sheet(0, -1, LOW) ! BAD",
                "sheet(0, 0, -1) ! -14");
    }

    private static void newSheetIsOfNoughts() {
        Run.about("A SHEET is a new row of CELLS 0: 1.");
        for (int lane = 0; lane <= 2; lane++) {
            String sheet = "sheet(2, " + lane + ", ";
            Run run = Run.of(TWO).rows(sheet + "40) = 1");
            for (int i = 0; i < 40; i++) {
                run.rows("lay(2, " + i + ", 77) = 1");
            }
            run.rows("read(2, " + lane + ", 0, 20) = -20", sheet + "40) = 1", "read(2, " + lane + ", 0, 20) = 20", "torn() = 0",
                    "rule(6) = 0", "read(2, " + lane + ", 38, 1) = 1", "rule(6) = 0");
            // Also where a shorter one was between.
            run.rows("lay(2, 38, 1)", "lay(2, 39, 9)", sheet + "2) = 1", sheet + "40) = 1", "read(2, " + lane + ", 38, 1) = 1",
                    "rule(6) = 0");
        }
    }

    private static void laid() {
        Run.about("BAD: k; -10 less the FAULT: NULL, INDEX.");
        Run run = Run.of(TWO).rows("sheet(1, 0, 3)", "lay(1, 1, 5)", "sheet(2, 2, 40)");
        for (String k : WRONG_SHEETS) {
            run.rows("lay(" + k + ", 0, 1) ! BAD", "lay(" + k + ", -1, 1) ! BAD");
        }
        String[] outside = {"-1", "3", "4", "40", "LOW", "HIGH"};
        for (String i : outside) {
            run.rows("lay(0, " + i + ", 1) ! -11", "lay(3, " + i + ", 1) ! -11", "lay(1, " + i + ", 1) ! -12");
        }
        run.rows("lay(0, 0, 1) ! -11", "lay(2, -1, 1) ! -12", "lay(2, 40, 1) ! -12", "lay(2, 39, 1) = 1", "lay(2, 0, 1) = 1",
                "lay(1, 0, 1) = 1", "lay(1, 2, 9) = 1");
        // CELL 1 is as laid, CELL 0 and 2 too: 5 to the second one; then 9 to a STATION that there is not.
        run.rows("read(1, 0, 0, 1) = 1", "station(1, 1) = 5", "read(1, 0, 1, 1) ! -20");
    }

    /** One pair of a lane: a STATION and a number as they are laid, and what read() answers. */
    private static void pair(int lane, String i, String n, String row) {
        Run.of(TWO).rows("sheet(0, " + lane + ", 2)", "lay(0, 0, " + i + ") = 1", "lay(0, 1, " + n + ") = 1",
                "read(0, " + lane + ", 0, 1) = " + (row == null ? "-20" : "1"), row == null ? "rule(6) = 0" : row);
    }

    private static void laidLowestBits() {
        Run.about("CELL i of a SHEET becomes v (its lowest bits): 1.");
        pair(0, "0", "355", "station(0, 1) = 99");
        pair(0, "0", "356", null);
        pair(0, "0", "-157", "station(0, 1) = 99");
        pair(0, "0", "-156", null);
        pair(0, "257", "256", "station(1, 1) = 0");
        pair(0, "-255", "7", "station(1, 1) = 7");
        pair(0, "LOW", "65541", "station(0, 1) = 5");
        // 127, -128 and -1 are the ends of a BYTE, and no number of letters.
        String[] noBytes = {"100", "127", "128", "255", "-1", "-128", "HIGH"};
        for (String n : noBytes) {
            pair(0, "0", n, null);
            pair(0, n, "0", null);
        }
        pair(1, "0", "65635", "station(0, 1) = 99");
        pair(1, "0", "65636", null);
        pair(1, "0", "-65437", "station(0, 1) = 99");
        pair(1, "65537", "65536", "station(1, 1) = 0");
        pair(1, "LOW", "131077", "station(0, 1) = 5");
        String[] noShorts = {"100", "127", "128", "256", "257", "355", "32767", "32768", "65535", "-1", "-157", "HIGH"};
        for (String n : noShorts) {
            pair(1, "0", n, null);
            pair(1, n, "0", null);
        }
        pair(2, "1", "99", "station(1, 1) = 99");
        String[] noInts = {"100", "256", "257", "65536", "65537", "65635", "-1", "LOW", "HIGH"};
        for (String n : noInts) {
            pair(2, "0", n, null);
            pair(2, n, "0", null);
        }
    }

    private static void readNumbers() {
        Run.about("BAD: k, lane, n");
        Run[] all = {Run.fresh(), Run.rich(), Run.of(TWO).rows("sheet(0, 0, 40)", "lay(0, 39, 9)")};
        for (Run run : all) {
            for (String k : WRONG_SHEETS) {
                run.rows("read(" + k + ", 0, 0, 1) ! BAD", "read(" + k + ", 0, 0, 0) ! BAD");
            }
            for (String lane : WRONG_LANES) {
                run.rows("read(0, " + lane + ", 0, 1) ! BAD", "read(3, " + lane + ", 0, 0) ! BAD");
            }
            run.rows("read(0, 0, 0, -1) ! BAD", "read(0, 0, 0, 21) ! BAD", "read(0, 0, 0, LOW) ! BAD", "read(0, 0, 0, HIGH) ! BAD",
                    "read(3, 1, -1, 21) ! BAD");
        }
    }

    private static Run twenty(int lane) {
        Run run = Run.of(TWO).rows("sheet(3, " + lane + ", 40)");
        for (int j = 0; j < 20; j++) {
            run.rows("lay(3, " + 2 * j + ", " + j % 2 + ")", "lay(3, " + (2 * j + 1) + ", " + j + ")");
        }
        return run;
    }

    private static void readWhole() {
        Run.about("n (0 to 20) times a STATION, a number of letters are read of a SHEET taken as of a lane, two CELLS each from"
                + " CELL f on, one behind another as by post(): how many came.");
        for (int lane = 0; lane <= 2; lane++) {
            String read = "read(3, " + lane + ", ";
            twenty(lane).rows(read + "0, 20) = 20", "torn() = 0", "station(0, 1) = 90", "station(1, 1) = 99", "rule(5) = 1");
            twenty(lane).rows(read + "0, 19) = 19", "torn() = 0", "station(0, 1) = 90", "station(1, 1) = 81", "rule(5) = 0");
            twenty(lane).rows(read + "38, 1) = 1", "torn() = 0", "station(0, 1) = 0", "station(1, 1) = 19");
            twenty(lane).rows(read + "2, 19) = 19", "torn() = 0", "station(1, 1) = 99");
            twenty(lane).rows(read + "0, 0) ! 0", read + "40, 0) ! 0", read + "0, 1) ! 1", read + "2, 1) = 1", "station(1, 1) = 1");
        }
        // Where there is no room they are LOST, one behind another.
        Run.of("plain 97 1 0 1;").rows("sheet(0, 0, 6)", "lay(0, 1, 2)", "lay(0, 3, 1)", "lay(0, 5, 99)", "read(0, 0, 0, 1) = 1",
                "station(0, 1) = 99", "rule(5) = 0", "read(0, 0, 2, 1) = 1", "rule(5) = 1", "read(0, 0, 0, 3) = 3", "rule(5) = 103",
                "station(0, 1) = 99");
    }

    private static void readHalf() {
        Run.about("What the machine refuses: those that were whole ahead came (its FAULT is asked by torn()).");
        for (int lane = 0; lane <= 2; lane++) {
            String read = "read(3, " + lane + ", ";
            twenty(lane).rows(read + "2, 20) = 19", "torn() = 2", "station(1, 1) = 99", "station(0, 1) = 90");
            twenty(lane).rows(read + "38, 2) = 1", "torn() = 2", "station(1, 1) = 19", "rule(6) = 19");
            twenty(lane).rows(read + "39, 1) = 0", "torn() = 2", "rule(6) = 0");
            twenty(lane).rows(read + "40, 1) = 0", "torn() = 2", "rule(6) = 0");
            // Sizes 0, 1, 2, 3: none, half, one, one and a half.
            for (int n = 0; n <= 3; n++) {
                Run.of(TWO).rows("sheet(0, " + lane + ", " + n + ")", "lay(0, 1, 8)", "read(0, " + lane + ", 0, 2) = " + n / 2,
                        "torn() = 2", "station(0, 1) = " + (n >= 2 ? 8 : 0));
            }
        }
    }

    private static void readNull() {
        Run.about("1 NULL (nothing)");
        for (int k = 0; k <= 3; k++) {
            for (int lane = 0; lane <= 2; lane++) {
                String read = "read(" + k + ", " + lane + ", ";
                Run.of(TWO).rows(read + "0, 1) = 0", "torn() = 1", read + "-1, 20) = 0", "torn() = 1", read + "HIGH, 1) = 0",
                        "torn() = 1", "rule(6) = 0");
            }
        }
        Run.fresh().rows("read(0, 0, 0, 1) = 0", "torn() = 1");
    }

    private static void readIndex() {
        Run.about("2 INDEX");
        String[] outside = {"-1", "-2", "-40", "5", "6", "40", "LOW", "HIGH", "2147483646", "-2147483647"};
        for (int lane = 0; lane <= 2; lane++) {
            for (String f : outside) {
                Run.of(TWO).rows("sheet(1, " + lane + ", 6)", "lay(1, 1, 3)", "lay(1, 5, 4)", "read(1, " + lane + ", " + f + ", 1) = 0",
                        "torn() = 2", "read(1, " + lane + ", " + f + ", 20) = 0", "torn() = 2", "rule(6) = 0");
            }
            Run.of(TWO).rows("sheet(1, " + lane + ", 6)", "lay(1, 1, 3)", "lay(1, 5, 4)", "read(1, " + lane + ", 4, 1) = 1",
                    "torn() = 0", "station(0, 1) = 4", "read(1, " + lane + ", 0, 1) = 1", "station(0, 1) = 7");
        }
    }

    private static void readCast() {
        Run.about("3 CAST (another lane)");
        for (int lane = 0; lane <= 2; lane++) {
            for (int other = 0; other <= 2; other++) {
                if (other != lane) {
                    String read = "read(0, " + other + ", ";
                    Run.of(TWO).rows("sheet(0, " + lane + ", 4)", "lay(0, 1, 3)", read + "0, 1) = 0", "torn() = 3",
                            read + "-1, 1) = 0", "torn() = 3", read + "4, 20) = 0", "torn() = 3", "rule(6) = 0",
                            "lay(0, 0, 2)", read + "0, 1) = 0", "torn() = 3", "sheet(0, " + lane + ", 0)", read + "0, 1) = 0",
                            "torn() = 3", "sheet(0, " + other + ", 2)", read + "0, 1) = 1", "torn() = 0");
                }
            }
        }
    }

    private static void readRefused() {
        Run.about("-20 less i: the i-th, whole, is refused by post(): then none came");
        String[][] wrong = {{"2", "1"}, {"-1", "1"}, {"0", "-1"}, {"0", "100"}, {"4", "0"}};
        for (String[] pair : wrong) {
            for (int at = 0; at < 20; at += at == 1 ? 17 : 1) {
                Run run = Run.of(TWO).rows("sheet(0, 2, 40)", "lay(0, 1, 5)", "lay(0, 39, 6)", "lay(0, " + 2 * at + ", " + pair[0] + ")",
                        "lay(0, " + (2 * at + 1) + ", " + pair[1] + ")");
                run.rows("read(0, 2, 0, 20) ! " + (-20 - at), "rule(6) = 0", "rule(5) = 0", "read(0, 2, 0, " + at + ") = " + at,
                        "torn() = 0", "read(0, 2, " + 2 * at + ", 1) ! -20");
            }
        }
        // The last that post() takes: the last STATION, 0 and 99 letters.
        Run.of(TWO).rows("sheet(0, 0, 4)", "lay(0, 0, 1)", "lay(0, 1, 99)", "read(0, 0, 0, 2) = 2", "station(1, 1) = 99",
                "station(0, 1) = 0");
        Run.fresh().rows("sheet(0, 0, 2)", "read(0, 0, 0, 1) ! -20");
        Run.rich().rows("lay(0, 0, 3)", "read(0, 0, 0, 1) ! -20", "read(0, 0, 0, 2) ! -20", "lay(0, 0, 2)", "lay(0, 3, 100)",
                "read(0, 0, 0, 2) ! -21", "lay(0, 3, 99)", "read(0, 0, 0, 2) = 2", "torn() = 0");
    }

    private static void readFirstMet() {
        Run.about("the first met");
        // The first of two that are refused; one that is refused ahead of the end; the end ahead of a half that is wrong.
        Run.of(TWO).rows("sheet(0, 0, 7)", "lay(0, 2, 2)", "lay(0, 5, 100)", "read(0, 0, 0, 3) ! -21", "lay(0, 0, 9)",
                "read(0, 0, 0, 3) ! -20", "read(0, 0, 0, 20) ! -20", "read(0, 0, 4, 2) ! -20");
        Run.of(TWO).rows("sheet(0, 0, 3)", "lay(0, 1, 4)", "lay(0, 2, 9)", "read(0, 0, 0, 2) = 1", "torn() = 2", "rule(6) = 4");
        // CELLS of which the first one is outside, the second one inside: the machine refuses the first one.
        Run.of(TWO).rows("sheet(0, 0, 3)", "lay(0, 0, 100)", "read(0, 0, -1, 1) = 0", "torn() = 2", "read(0, 0, -2, 2) = 0",
                "torn() = 2");
        // Another lane, ahead of numbers that post() would refuse.
        Run.of(TWO).rows("sheet(0, 0, 2)", "lay(0, 0, 9)", "read(0, 1, 0, 1) = 0", "torn() = 3", "read(0, 0, 0, 1) ! -20");
    }

    private static void readNone() {
        Run.about("n (0 to 20) times");
        // Nothing is read, so nothing is found, as the document is understood here.
        Run.of(TWO).rows("read(0, 0, 0, 0) ! 0", "sheet(0, 0, 2)", "read(0, 1, 0, 0) ! 0", "read(0, 0, -1, 0) ! 0",
                "read(0, 0, 2, 0) ! 0", "read(0, 1, 0, 1) = 0", "torn() = 3", "read(0, 0, 2, 0) = 0", "torn() = 0");
    }

    private static void torn() {
        Run.about("The FAULT of the latest read() that came to an end; 0.");
        Run.fresh().rows("torn() ! 0", "lay(0, 0, 0) ! -11", "sheet(0, 0, -1) ! -14", "torn() ! 0");
        Run run = Run.of(TWO).rows("sheet(0, 0, 2)", "sheet(1, 1, 1)", "read(2, 0, 0, 1) = 0", "torn() ! 1", "read(1, 1, 0, 1) = 0",
                "torn() ! 2", "read(0, 1, 0, 1) = 0", "torn() ! 3");
        // Those that are refused are not of it, nor FAULTS of other calls.
        run.rows("read(4, 0, 0, 1) ! BAD", "read(0, 3, 0, 1) ! BAD", "read(0, 0, 0, 21) ! BAD", "torn() = 3", "lay(0, 0, 2) = 1",
                "read(0, 0, 0, 1) ! -20", "torn() = 3", "lay(2, 0, 0) ! -11", "lay(0, 2, 0) ! -12", "sheet(3, 0, -1) ! -14",
                "torn() = 3", "lay(0, 0, 1) = 1", "read(0, 0, 0, 1) = 1", "torn() = 0");
    }

    private static void counts() {
        Run.about("How many: 0 SEEN, 1 IMAGES, 2 bytes on THE TAPE, 3 CELLS of SHEET 0 (NONE: nothing), 4 LINKS of all,"
                + " 5 GAINS of all. BAD.");
        String[] wrong = {"count(-1) ! BAD", "count(6) ! BAD", "count(LOW) ! BAD", "count(HIGH) ! BAD"};
        Run.fresh().rows(wrong).rows("count(0) ! 0", "count(1) ! 0", "count(2) ! 0", "count(3) ! NONE", "count(4) ! 0",
                "count(5) ! 0");
        Run.rich().rows(wrong).rows("count(0) ! 2", "count(1) ! 2", "count(2) ! 0", "count(3) ! 4", "count(4) ! 17", "count(5) ! 11");
        Run.fresh().rows("sheet(1, 0, 4)", "sheet(2, 0, 4)", "sheet(3, 0, 4)", "count(3) ! NONE", "sheet(0, 0, 0)", "count(3) ! 0",
                "sheet(0, 0, 40)", "count(3) ! 40", "sheet(0, 0, 41) ! BAD", "sheet(0, 0, -1) ! -14", "count(3) = 40");
        Run.of("plain 0 1 0 1;".repeat(5)).rows("count(4) = 5", "count(5) = 0");
        Run.of("plain 0 1 9 9;".repeat(5)).rows("count(4) = 45", "count(5) = 45");
    }
}
