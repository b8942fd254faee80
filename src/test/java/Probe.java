import java.util.ArrayList;
import java.util.List;

/**
 * All that calls can tell of an object: each part is looked at on an object of its own, on which the same calls have
 * been made, since to look at tape, images, sheets and what is seen is to change them.
 */
final class Probe {
    private static final String THREE = "plain 0 1 0 1;plain 0 1 0 1;plain 0 1 0 1;";

    private final RingWord x = new RingWord();
    private final List<String> told;
    private int calls = 0;

    private Probe(List<String> made, List<String> told) {
        this.told = told;
        for (String call : made) {
            answer(call);
        }
    }

    static List<String> all(List<String> made) {
        List<String> told = allButFault(made);
        new Probe(made, told).tell("fault()");
        return told;
    }

    static List<String> allButFault(List<String> made) {
        List<String> told = new ArrayList<>();
        told.addAll(world(made));
        for (int k = 0; k < 2; k++) {
            Probe image = new Probe(made, told);
            image.tell("back(" + k + ")");
            image.world();
        }
        new Probe(made, told).tape();
        for (int k = 0; k < 4; k++) {
            new Probe(made, told).sheet(k);
        }
        return told;
    }

    /** What an image is of, how many there are of all, and torn(). */
    static List<String> world(List<String> made) {
        List<String> told = new ArrayList<>();
        Probe probe = new Probe(made, told);
        probe.world();
        return told;
    }

    private long answer(String call) {
        calls++;
        if (calls > Run.MOST_CALLS) {
            throw new IllegalStateException("one call too many: " + call);
        }
        return Run.call(x, call);
    }

    private long tell(String call) {
        long answer = answer(call);
        told.add(call + " is " + answer);
        return answer;
    }

    private void stations() {
        for (int what = 0; what <= 7; what++) {
            tell("rule(" + what + ")");
        }
        long stations = answer("rule(0)");
        for (int i = 0; i < stations; i++) {
            for (int what = 0; what <= 6; what++) {
                tell("station(" + i + ", " + what + ")");
            }
        }
    }

    private void world() {
        stations();
        for (int what = 0; what <= 5; what++) {
            tell("count(" + what + ")");
        }
        tell("torn()");
        long stations = answer("rule(0)");
        for (long n = answer("count(0)"); n > 0; n--) {
            for (int i = 0; i < stations; i++) {
                tell("gains(" + i + ")");
                tell("kinds(" + i + ")");
            }
            tell("forget(" + (n - 1) + ")");
        }
    }

    private void tape() {
        tell("text()");
        tell("fault()");
        stations();
    }

    private void sheet(int k) {
        answer("end(0)");
        for (int j = 0; j < THREE.length(); j++) {
            answer("feed(" + (int) THREE.charAt(j) + ")");
        }
        answer("text()");
        int as = -1;
        for (int lane = 0; lane <= 2; lane++) {
            long came = tell("read(" + k + ", " + lane + ", 0, 1)");
            boolean isOther = tell("torn()") == 3 && came == 0;
            as = isOther ? as : lane;
        }
        for (int i = 0; i < 3; i++) {
            tell("station(" + i + ", 1)");
        }
        // The cell ahead has been told already, so it may become that of the station to which the next one goes.
        boolean isCell = true;
        for (int i = 0; i < 41 && isCell; i++) {
            isCell = tell("lay(" + k + ", " + i + ", 0)") == 1;
            if (isCell) {
                answer("alter(0, 1, 0)");
                tell("read(" + k + ", " + as + ", " + i + ", 1)");
                tell("station(0, 1)");
            }
        }
    }
}
