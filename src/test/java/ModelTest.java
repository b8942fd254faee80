import java.util.Random;

/** Many runs of calls on RingWord and on Model, whose answers must be the same. */
public final class ModelTest {
    private static final int OBJECTS = 500;
    private static final int CALLS = 512;
    private static final String[] NAMES = {"plain", "greedy", "meek", "fair"};
    private static final String ODD = "abz019 ;?A:/`{\n";

    private final Random random;
    private final RingWord x = new RingWord();
    private final Model m = new Model();
    private int calls = 0;

    private ModelTest(long seed) {
        random = new Random(seed);
    }

    public static void main(String[] args) {
        for (int seed = 0; seed < OBJECTS; seed++) {
            new ModelTest(seed).run();
        }
        Check.close("ModelTest");
    }

    private void run() {
        while (calls < CALLS) {
            if (calls == 0 && random.nextInt(10) > 0 || random.nextInt(120) == 0) {
                feedText();
            } else {
                call(random.nextInt(34));
            }
        }
    }

    private void same(String call, long got, long want) {
        calls++;
        if (calls <= CALLS) {
            Check.due(call, got, want);
        }
    }

    private int upTo(int most) {
        return random.nextInt(most + 1);
    }

    /** Mostly a number from least to most; at times one beside these, or far from them. */
    private int some(int least, int most) {
        switch (random.nextInt(40)) {
            case 0: return least - 1;
            case 1: return most + 1;
            case 2: return random.nextBoolean() ? least : most;
            case 3: return random.nextInt(4) == 0 ? random.nextInt() : most;
            case 4: return random.nextBoolean() ? Integer.MIN_VALUE : Integer.MAX_VALUE;
            default: return least + upTo(most - least);
        }
    }

    private int someStation() {
        return some(0, Math.max(0, m.rule(0) - 1));
    }

    private void feedText() {
        StringBuilder text = new StringBuilder();
        int lines = random.nextInt(8) == 0 ? upTo(7) : 1 + upTo(3);
        int high = random.nextBoolean() ? 99 : 12;
        for (int j = 0; j < lines; j++) {
            text.append(NAMES[upTo(3)]).append(' ').append(upTo(high)).append(' ').append(1 + upTo(8)).append(' ')
                .append(upTo(9)).append(' ').append(1 + upTo(8)).append(random.nextBoolean() ? ";" : " ; ");
            if (random.nextInt(6) == 0) {
                text.append("word ").append(upTo(random.nextInt(4) == 0 ? 5 : lines - 1)).append(';');
            }
        }
        if (random.nextInt(3) == 0) {
            spoil(text);
        }
        for (int j = 0; j < text.length(); j++) {
            same("feed", x.feed(text.charAt(j)), m.feed(text.charAt(j)));
        }
        same("text() of " + text, x.text(), m.text());
        same("fault() of " + text, x.fault(), m.fault());
    }

    private void spoil(StringBuilder text) {
        for (int j = upTo(2); j >= 0 && text.length() > 0; j--) {
            int at = random.nextInt(text.length());
            switch (random.nextInt(4)) {
                case 0: text.deleteCharAt(at); break;
                case 1: text.setCharAt(at, ODD.charAt(random.nextInt(ODD.length()))); break;
                case 2: text.insert(at, ODD.charAt(random.nextInt(ODD.length()))); break;
                default: text.setLength(at); break;
            }
        }
    }

    private void call(int which) {
        if (which < 12) {
            callOfState(which);
        } else if (which < 21) {
            callOfVisits(which);
        } else if (which < 27) {
            callOfQueues(which);
        } else {
            callOfSheets(which);
        }
    }

    private void callOfState(int which) {
        int i = someStation();
        int k = someStation();
        int what = some(0, 7);
        int v = some(0, 99);
        switch (which) {
            case 0: same("feed(" + v + ")", x.feed(v), m.feed(v)); break;
            case 1: same("end(" + i + ")", x.end(i), m.end(i)); break;
            case 2: same("fault()", x.fault(), m.fault()); break;
            case 3: case 4: same("rule(" + what + ")", x.rule(what), m.rule(what)); break;
            case 5: case 6: same("station(" + i + ", " + what + ")", x.station(i, what), m.station(i, what)); break;
            case 7: alter(i, some(0, 4)); break;
            case 8: same("give(" + i + ")", x.give(i), m.give(i)); break;
            case 9: same("post(" + i + ", " + v + ")", x.post(i, v), m.post(i, v)); break;
            case 10: same("change(" + i + ", " + k + ")", x.change(i, k), m.change(i, k)); break;
            default: same("text()", x.text(), m.text()); feedText(); break;
        }
    }

    private void alter(int i, int what) {
        int v = some(0, what == 1 ? 99 : what == 0 ? 3 : 9);
        same("alter(" + i + ", " + what + ", " + v + ")", x.alter(i, what, v), m.alter(i, what, v));
    }

    private void callOfVisits(int which) {
        int i = someStation();
        int n = random.nextBoolean() ? some(0, 12) : some(0, 200);
        int what = some(0, 1);
        String tail = "(" + i + ", " + n + ", " + what + ")";
        switch (which) {
            case 12: same("visits" + tail, x.visits(n), m.visits(n)); break;
            case 13: what = some(0, 3); same("runs" + tail, x.runs(n, what), m.runs(n, what)); break;
            case 14: what = some(0, 2); same("ahead" + tail, x.ahead(i, n, what), m.ahead(i, n, what)); break;
            case 15: same("when" + tail, x.when(i), m.when(i)); break;
            case 16: same("kind" + tail, x.kind(i, n, what), m.kind(i, n, what)); break;
            case 17: same("hold" + tail, x.hold(i, n, what), m.hold(i, n, what)); break;
            case 18: same("swap" + tail, x.swap(n, what), m.swap(n, what)); break;
            case 19: same("pass" + tail, x.pass(n, what), m.pass(n, what)); break;
            default: same("begin" + tail, x.begin(n, what), m.begin(n, what)); break;
        }
    }

    private void callOfQueues(int which) {
        int i = someStation();
        int what = some(0, 1);
        int v = some(0, 10);
        int n = some(0, 8);
        switch (which) {
            case 21: {
                int q = random.nextBoolean() ? some(0, 99) : m.station(i, 1);
                same("luck(" + v + ", " + i + ", " + n + ", " + q + ", " + what + ")",
                        x.luck(v, i, n, q, what), m.luck(v, i, n, q, what));
                break;
            }
            case 22: same("mean(" + v + ", " + n + ", " + what + ")", x.mean(v, n, what), m.mean(v, n, what)); break;
            case 23: see(i); break;
            case 24: same("forget(" + v + ")", x.forget(v), m.forget(v)); break;
            case 25: {
                int seed = random.nextInt();
                int many = some(1, 200);
                same("drift(" + seed + ", " + many + ", " + what + ")",
                        x.drift(seed, many, what), m.drift(seed, many, what));
                break;
            }
            default: break;
        }
        same("kinds(" + i + ")", x.kinds(i), m.kinds(i));
        same("gains(" + i + ")", x.gains(i), m.gains(i));
        same("ask(" + i + ", " + what + ")", x.ask(i, what), m.ask(i, what));
    }

    /** Mostly what will be, by some gain, or else all that is left is soon none. */
    private void see(int i) {
        int n = some(0, 40);
        int v = some(0, 99);
        if (random.nextInt(5) > 0) {
            int gain = m.station(i, 3);
            m.alter(i, 3, upTo(9));
            v = m.ahead(i, n, 0);
            m.alter(i, 3, gain);
        }
        same("see(" + n + ", " + i + ", " + v + ")", x.see(n, i, v), m.see(n, i, v));
    }

    private void callOfSheets(int which) {
        int k = some(0, 3);
        int lane = some(0, 2);
        int n = some(0, random.nextBoolean() ? 20 : 4);
        switch (which) {
            case 27: case 28: same("keep(" + k + ")", x.keep(k / 2), m.keep(k / 2)); break;
            case 29: same("back(" + k + ")", x.back(k / 2), m.back(k / 2)); break;
            case 30: {
                int size = some(0, 40);
                same("sheet(" + k + ", " + lane + ", " + size + ")", x.sheet(k, lane, size), m.sheet(k, lane, size));
                break;
            }
            case 31: layMany(k); break;
            case 32: {
                int f = some(0, random.nextBoolean() ? 40 : 5);
                same("read(" + k + ", " + lane + ", " + f + ", " + n + ")", x.read(k, lane, f, n), m.read(k, lane, f, n));
                same("torn()", x.torn(), m.torn());
                break;
            }
            default: {
                int what = some(0, 5);
                same("count(" + what + ")", x.count(what), m.count(what));
                break;
            }
        }
    }

    private void layMany(int k) {
        for (int j = upTo(6); j >= 0; j--) {
            int i = some(0, 39);
            int v = random.nextInt(3) == 0 ? some(0, 99) : random.nextInt(12) == 0 ? random.nextInt() : upTo(2);
            same("lay(" + k + ", " + i + ", " + v + ")", x.lay(k, i, v), m.lay(k, i, v));
        }
    }
}
