import java.util.List;

/** The boundary cases of promises 28 to 30: by a seed, and images. */
public final class ImageEdgeTest {
    public static void main(String[] args) {
        driftNumbers();
        driftWithoutStations();
        driftSeeds();
        driftNoRoom();
        driftPlaces();
        kept();
        back();
        allIsAsImage();
        allThatIsSeen();
        imagesOfNothing();
        Check.close("ImageEdgeTest");
    }

    private static void driftNumbers() {
        Run.about("By itself, n VISITS (1 to 200) by a seed");
        String[] wrong = {"drift(7, 0, 0) ! BAD", "drift(7, -1, 0) ! BAD", "drift(7, 201, 0) ! BAD", "drift(7, LOW, 0) ! BAD",
            "drift(7, HIGH, 0) ! BAD", "drift(7, 1, -1) ! BAD", "drift(7, 1, 2) ! BAD", "drift(7, 200, LOW) ! BAD",
            "drift(7, 200, HIGH) ! BAD"};
        Run.fresh().rows(wrong);
        Run.rich().rows(wrong).asModel("drift(7, 1, 0)", "drift(7, 1, 1)", "drift(7, 200, 0)", "drift(7, 200, 1)",
                "drift(-8, 199, 0)", "drift(-8, 200, 1)");
        // 1 is sent each time to the last of them: there are always more.
        Run.of("plain 99 1 9 9;").rows("drift(7, 1, 0) ! 1", "drift(7, 199, 0) ! 199", "drift(7, 200, 0) ! 200",
                "drift(7, 200, 1) ! 99");
    }

    private static void driftWithoutStations() {
        Run.about("STATE: there are no STATIONS.");
        Run.fresh().rows("drift(7, 1, 0) ! STATE", "drift(7, 200, 1) ! STATE", "drift(LOW, 1, 0) ! STATE");
        Run.of("plain 0 1 0 1;").rows("drift(0, 1, 1) ! 0").taken("", 0).rows("drift(0, 1, 1) ! STATE");
        Run.about("the first that fits");
        Run.fresh().rows("drift(7, 0, 0) ! BAD", "drift(7, 201, 1) ! BAD", "drift(7, 1, 2) ! BAD", "drift(7, 200, 1) ! STATE");
    }

    private static void driftSeeds() {
        Run.about("ahead of each the seed becomes seed times 1103515245 and 12345; bits 16 to 30 of it are got");
        // The seed goes round at 32 bits; bit 31 of it is not got, so these pairs are alike.
        String[] seeds = {"0", "LOW"};
        for (String seed : seeds) {
            // By seed 0 come 0, 3, 8, 4.
            Run.of("plain 0 1 0 1;").rows("drift(" + seed + ", 1, 1) ! 0", "drift(" + seed + ", 2, 1) ! 2",
                    "drift(" + seed + ", 3, 1) ! 9", "drift(" + seed + ", 4, 1) ! 12", "drift(" + seed + ", 4, 0) ! 3");
        }
        String[] others = {"-1", "HIGH"};
        for (String seed : others) {
            // Got are 15929, 4409, 9862, 26718: 1 comes to 1, 1 to 1, 2 to 0, 9 to 0.
            Run.of("plain 0 2 0 1;plain 0 2 0 1;").rows("drift(" + seed + ", 1, 1) ! 1", "drift(" + seed + ", 2, 0) ! 2",
                    "drift(" + seed + ", 3, 0) ! 4", "drift(" + seed + ", 4, 1) ! 9");
        }
        Run.rich().asModel("drift(0, 9, 1)", "drift(1, 9, 1)", "drift(-1, 9, 1)", "drift(LOW, 9, 1)", "drift(HIGH, 9, 1)",
                "drift(2147483646, 90, 0)", "drift(-2147483647, 90, 0)");
    }

    private static void driftNoRoom() {
        Run.about("(as by post()) ahead of that VISIT");
        // 0, 3, 8, 4 come ahead of the VISITS, each of which sends 1: those that have no room are gone.
        Run.of("plain 99 1 0 1;").rows("drift(0, 1, 1) ! 98", "drift(0, 2, 1) ! 98", "drift(0, 3, 1) ! 98",
                "drift(0, 4, 1) ! 98");
        Run.of("plain 97 1 0 1;").rows("drift(0, 1, 1) ! 96", "drift(0, 2, 1) ! 98", "drift(0, 3, 1) ! 98");
        Run.of("plain 96 1 0 1;").rows("drift(0, 1, 1) ! 95", "drift(0, 2, 1) ! 97", "drift(0, 3, 1) ! 98");
        // Ahead of it: what comes goes in the same VISIT.
        Run.of("plain 0 9 0 1;").rows("drift(0, 2, 0) ! 3", "drift(0, 3, 0) ! 11", "drift(0, 3, 1) ! 0");
    }

    private static void driftPlaces() {
        Run.about("got by 8 (down) modulo 10 letters come to STATION got modulo STATIONS");
        for (int n = 1; n <= 5; n++) {
            Run.of("plain 50 2 1 3;".repeat(n)).asModel("drift(1, 1, 0)", "drift(1, 1, 1)", "drift(1, 10, 0)", "drift(1, 60, 1)",
                    "drift(99, 200, 0)", "drift(-99, 200, 1)");
        }
        // By seed 1 are got 16838, 5758, 10113: 4 come to the third, 9 to the second, 4 to the first; 0 comes never to a fourth.
        Run.of("plain 0 9 0 1;plain 0 9 0 1;plain 0 9 0 1;word 2;").rows("drift(1, 1, 0) ! 4", "drift(1, 1, 1) ! 0",
                "drift(1, 2, 1) ! 9", "drift(1, 3, 0) ! 13");
    }

    private static void kept() {
        Run.about("what was SEEN: whether there was one (1, 0). BAD.");
        String[] wrong = {"keep(-1) ! BAD", "keep(2) ! BAD", "keep(LOW) ! BAD", "keep(HIGH) ! BAD"};
        Run.fresh().rows(wrong).rows("count(1) = 0", "keep(0) = 0", "count(1) = 1", "keep(0) ! 1", "count(1) = 1", "keep(1) = 0",
                "count(1) = 2", "keep(1) ! 1", "keep(0) ! 1", "count(1) = 2").rows(wrong);
        Run.fresh().rows("keep(1) = 0", "count(1) = 1", "back(0) ! STATE", "keep(0) = 0", "count(1) = 2");
        Run.rich().rows(wrong).rows("keep(0) = 1", "keep(1) = 1", "count(1) = 2");
        Run.of("plain 9 1 0 1;").rows("keep(0) = 0").taken("plain 9 1 0 1;", 1).rows("count(1) = 0", "keep(0) = 0", "keep(0) ! 1");
    }

    private static void back() {
        Run.about("All is as IMAGE k: VISITS. BAD; STATE: there is none.");
        String[] wrong = {"back(-1) ! BAD", "back(2) ! BAD", "back(LOW) ! BAD", "back(HIGH) ! BAD"};
        Run.fresh().rows(wrong).rows("back(0) ! STATE", "back(1) ! STATE", "keep(1) = 0", "back(0) ! STATE", "back(1) ! 0");
        Run.rich().rows(wrong).rows("back(0) = 4", "back(0) ! 4", "back(1) = 7", "back(1) ! 7").rows(wrong);
        Run.of("plain 9 1 0 1;").rows("visits(3) = 3", "back(0) ! STATE", "back(1) ! STATE", "keep(0) = 0", "visits(2) = 2",
                "back(1) ! STATE", "rule(3) = 5", "back(0) = 3", "rule(3) = 3", "station(0, 1) = 6");
    }

    private static void allIsAsImage() {
        Run.about("IMAGE k (0, 1) is STATIONS (all of them), THE WORD, TIME, VISITS, SENT, LOST");
        for (int k = 0; k <= 1; k++) {
            Run run = Run.rich().rows("keep(" + k + ") = 1");
            List<String> was = Probe.world(run.calls());
            run.rows("visits(33)", "post(0, 99)", "change(0, 2) = 3", "alter(1, 0, 0)", "alter(1, 2, 9)", "alter(1, 3, 9)",
                    "alter(1, 4, 9)", "give(2)", "forget(1) = 2", "see(0, 0, 0) = 2", "see(40, 2, 99) = 3",
                    "back(" + k + ") = 9");
            Run.same("back(" + k + ")", was, Probe.world(run.calls()));
            run.rows("alter(1, 1, 77)", "forget(0)", "visits(1)", "back(" + k + ") = 9");
            Run.same("back(" + k + ") again", was, Probe.world(run.calls()));
        }
        // None of THE TAPE, SHEETS, torn(), fault() is of it.
        Run.rich().feed("word").rows("sheet(0, 2, 3)", "back(0) = 4", "count(2) = 4", "count(3) = 3", "torn() = 3", "fault() = 1",
                "count(1) = 2");
    }

    /** Six are SEEN, of which one is not so, by one of its numbers: an IMAGE has each of them, whole. */
    private static void allThatIsSeen() {
        Run.about("what was SEEN");
        String isSo = "see(0, 0, 50)";
        String[] notSo = {"see(1, 0, 50)", "see(0, 1, 50)", "see(0, 0, 51)"};
        for (String not : notSo) {
            for (int j = 0; j < 6; j++) {
                Run run = Run.of("plain 50 1 0 1;plain 7 1 0 1;");
                see(run, isSo, not, j).rows("gains(0) = 0", "keep(0) = 0", "forget(0) = 6");
                see(run, isSo, isSo, j).rows("gains(0) = 1023", "keep(1) = 0");
                run.rows("back(0) = 0", "count(0) = 6", "gains(0) = 0", "back(1) = 0", "count(0) = 6", "gains(0) = 1023");
                run.rows("back(0) = 0", "forget(" + j + ") = 6", "gains(0) = 1023", "back(0) = 0", "forget(" + (j + 1) + ") = 6",
                        "gains(0) = 0");
            }
        }
    }

    private static Run see(Run run, String call, String other, int j) {
        for (int k = 0; k < 6; k++) {
            run.rows((k == j ? other : call) + " = " + (k + 1));
        }
        return run;
    }

    private static void imagesOfNothing() {
        Run.about("All is as IMAGE k: VISITS.");
        Run.fresh().rows("keep(0) = 0", "visits(7) = 0", "keep(1) = 0", "back(0) = 0", "rule(3) = 0", "rule(1) = NONE",
                "back(1) = 7", "rule(3) = 7", "rule(0) = 0", "rule(1) = NONE", "station(0, 0) ! BAD");
        // A text with a FAULT leaves IMAGES.
        Run.fresh().rows("visits(2)", "keep(0) = 0").feed("?").rows("text() = -10", "count(1) = 1", "back(0) = 2");
    }
}
