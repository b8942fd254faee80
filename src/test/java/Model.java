import java.math.BigInteger;
import java.util.ArrayList;
import java.util.HashMap;
import java.util.List;
import java.util.Map;
import java.util.function.Consumer;
import java.util.regex.Matcher;
import java.util.regex.Pattern;

/** The document a second time, letter by letter and with the whole Java library, for ModelTest. */
final class Model {
    private static final class Station {
        int kind, queue, hold, gain, link, own;
        boolean tired;

        Station copy() {
            Station s = new Station();
            s.kind = kind;
            s.queue = queue;
            s.hold = hold;
            s.gain = gain;
            s.link = link;
            s.own = own;
            s.tired = tired;
            return s;
        }
    }

    private static final class World {
        List<Station> all = new ArrayList<>();
        int word = 0;
        long time, visits, sent, lost;

        World copy() {
            World w = new World();
            for (Station s : all) {
                w.all.add(s.copy());
            }
            w.word = word;
            w.time = time;
            w.visits = visits;
            w.sent = sent;
            w.lost = lost;
            return w;
        }

        void letter(Station s) {
            if (s.queue == 99) {
                lost++;
            } else {
                s.queue++;
            }
        }

        int sends() {
            if (all.isEmpty()) {
                return 0;
            }
            Station s = all.get(word);
            boolean other = all.stream().anyMatch(o -> o != s && o.queue > s.queue);
            int plain = s.hold < s.queue ? s.hold : s.queue;
            int meek = other ? (plain == 0 ? 0 : plain - 1) : plain;
            switch (s.kind) {
                case 0: return plain;
                case 1: return s.hold * 2 < s.queue ? s.hold * 2 : s.queue;
                case 2: return meek;
                default: return s.tired ? 0 : meek;
            }
        }

        void visit(boolean none) {
            visits++;
            if (all.isEmpty()) {
                return;
            }
            Station s = all.get(word);
            int n = none ? 0 : sends();
            s.queue -= n;
            s.own += n;
            sent += n;
            s.tired = n != 0;
            long until = time + n + s.link;
            while (time < until) {
                time++;
                if (time % 10 == 0) {
                    for (Station o : all) {
                        for (int j = 0; j < o.gain; j++) {
                            letter(o);
                        }
                    }
                }
            }
            word = (word + 1) % all.size();
        }

        int queues() {
            return all.stream().mapToInt(o -> o.queue).sum();
        }
    }

    private static final class Fault extends Exception {
        private static final long serialVersionUID = 1L;
        final int which, place;

        Fault(int which, int place) {
            this.which = which;
            this.place = place;
        }
    }

    private static final Pattern TOKEN = Pattern.compile(" *([a-z]+|[0-9]+|;|\\z|.)", Pattern.DOTALL);
    private static final List<String> NAMES = List.of("plain", "greedy", "meek", "fair", "word");

    private World now = new World();
    private List<int[]> seen = new ArrayList<>();
    private final World[] images = new World[2];
    private final List<List<int[]>> imageSeen = new ArrayList<>(List.of(new ArrayList<>(), new ArrayList<>()));
    private String tape = "";
    private int fault, torn;
    private final Object[] sheets = new Object[4];

    private boolean no(int i) {
        return i < 0 || i >= now.all.size();
    }

    private static boolean out(int v, int a, int b) {
        return v < a || v > b;
    }

    private World after(int n, Consumer<World> first) {
        World w = now.copy();
        first.accept(w);
        for (int j = 0; j < n; j++) {
            w.visit(false);
        }
        return w;
    }

    private World after(int n) {
        return after(n, w -> { });
    }

    int feed(int c) {
        if (out(c, 0, 127)) {
            return -1;
        }
        if (tape.length() == 160) {
            return -3;
        }
        tape += (char) c;
        return tape.length();
    }

    int end(int n) {
        if (out(n, 0, tape.length())) {
            return -1;
        }
        int had = tape.length();
        tape = tape.substring(0, n);
        return had;
    }

    private String token(Matcher m) throws Fault {
        m.lookingAt();
        String t = m.group(1);
        if (t.matches("[0-9]{3,}") || !t.matches("[a-z]*|[0-9]*|;")) {
            throw new Fault(1, m.start(1));
        }
        m.region(m.end(), tape.length());
        return t;
    }

    private int number(Matcher m, int a, int b) throws Fault {
        String t = token(m);
        int at = m.regionStart() - t.length();
        if (!t.matches("[0-9]+")) {
            throw new Fault(2, at);
        }
        int v = Integer.parseInt(t);
        if (out(v, a, b)) {
            throw new Fault(3, at);
        }
        return v;
    }

    private int lines(World w) throws Fault {
        Matcher m = TOKEN.matcher(tape);
        int lines = 0;
        int word = -1;
        while (true) {
            String t = token(m);
            int at = m.regionStart() - t.length();
            if (t.isEmpty()) {
                break;
            }
            int kind = NAMES.indexOf(t);
            if (kind < 0) {
                throw new Fault(2, at);
            }
            if (kind == 4) {
                if (word >= 0) {
                    throw new Fault(4, at);
                }
                word = number(m, 0, 4);
            } else {
                if (w.all.size() == 5) {
                    throw new Fault(5, at);
                }
                Station s = new Station();
                s.kind = kind;
                s.queue = number(m, 0, 99);
                s.hold = number(m, 1, 9);
                s.gain = number(m, 0, 9);
                s.link = number(m, 1, 9);
                w.all.add(s);
            }
            String last = token(m);
            if (!last.equals(";")) {
                throw new Fault(2, m.regionStart() - last.length());
            }
            lines++;
        }
        if (word >= w.all.size()) {
            throw new Fault(6, tape.length());
        }
        w.word = Math.max(word, 0);
        return lines;
    }

    int text() {
        World w = new World();
        try {
            int lines = lines(w);
            fault = 0;
            now = w;
            seen = new ArrayList<>();
            images[0] = null;
            images[1] = null;
            return lines;
        } catch (Fault f) {
            fault = f.which;
            return -10 - f.place;
        } finally {
            tape = "";
        }
    }

    int fault() {
        return fault;
    }

    int rule(int what) {
        if (out(what, 0, 7)) {
            return -1;
        }
        long[] all = {now.all.size(), now.all.isEmpty() ? -4 : now.word, now.time, now.visits, now.sent,
            Math.min(now.lost, 999999), now.queues(), now.sends()};
        return (int) all[what];
    }

    int station(int i, int what) {
        if (no(i) || out(what, 0, 6)) {
            return -1;
        }
        Station s = now.all.get(i);
        return new int[] {s.kind, s.queue, s.hold, s.gain, s.link, s.own, s.tired ? 1 : 0}[what];
    }

    private static void set(Station s, int what, int v) {
        switch (what) {
            case 0: s.kind = v; break;
            case 1: s.queue = v; break;
            case 2: s.hold = v; break;
            case 3: s.gain = v; break;
            default: s.link = v; break;
        }
    }

    int alter(int i, int what, int v) {
        if (no(i) || out(what, 0, 4)) {
            return -1;
        }
        if (what == 0 && out(v, 0, 3) || what == 1 && out(v, 0, 99) || what == 3 && out(v, 0, 9)
                || (what == 2 || what == 4) && out(v, 1, 9)) {
            return -1;
        }
        int was = station(i, what);
        set(now.all.get(i), what, v);
        return was;
    }

    int give(int i) {
        if (no(i)) {
            return -1;
        }
        int had = now.word;
        now.word = i;
        return had;
    }

    int post(int i, int n) {
        if (no(i) || out(n, 0, 99)) {
            return -1;
        }
        long before = now.lost;
        for (int j = 0; j < n; j++) {
            now.letter(now.all.get(i));
        }
        return (int) (now.lost - before);
    }

    private static void change(World w, int i, int k) {
        Station s = w.all.get(i);
        w.all.set(i, w.all.get(k));
        w.all.set(k, s);
    }

    int change(int i, int k) {
        if (no(i) || no(k) || i == k) {
            return -1;
        }
        change(now, i, k);
        return now.all.size();
    }

    int visits(int n) {
        if (out(n, 0, 100)) {
            return -1;
        }
        if (now.visits + n >= 10000) {
            return -3;
        }
        long before = now.sent;
        now = after(n);
        return (int) (now.sent - before);
    }

    int runs(int n, int what) {
        if (out(n, 0, 200) || out(what, 0, 3)) {
            return -1;
        }
        World w = after(n);
        long[] all = {w.sent - now.sent, w.time - now.time, w.lost - now.lost, w.queues()};
        return (int) all[what];
    }

    int ahead(int i, int n, int what) {
        if (no(i) || out(n, 0, 200) || out(what, 0, 2)) {
            return -1;
        }
        int longest = 0;
        World w = now.copy();
        for (int j = 0; j <= n; j++) {
            longest = Math.max(longest, w.all.get(i).queue);
            if (j < n) {
                w.visit(false);
            }
        }
        Station s = w.all.get(i);
        return new int[] {s.queue, s.own - now.all.get(i).own, longest}[what];
    }

    int when(int i) {
        if (no(i)) {
            return -1;
        }
        World w = now.copy();
        for (int n = 0; n <= 200; n++, w.visit(false)) {
            if (w.all.get(i).queue == 0) {
                return n;
            }
        }
        return -4;
    }

    /** The key of the greatest number, of several the first put in; or how much; NONE of none. */
    private static int best(List<long[]> keyed, int what, long sign) {
        long[] best = null;
        for (long[] k : keyed) {
            if (best == null || k[1] > best[1]) {
                best = k;
            }
        }
        return best == null ? -4 : (int) (what == 0 ? best[0] : best[1] * sign);
    }

    int kind(int i, int n, int what) {
        if (no(i) || out(n, 0, 200) || out(what, 0, 1)) {
            return -1;
        }
        List<long[]> keyed = new ArrayList<>();
        for (int v = 0; v <= 3; v++) {
            int to = v;
            keyed.add(new long[] {v, after(n, w -> w.all.get(i).kind = to).sent - now.sent});
        }
        return best(keyed, what, 1);
    }

    int hold(int i, int n, int what) {
        if (no(i) || out(n, 0, 200) || out(what, 0, 1)) {
            return -1;
        }
        List<long[]> keyed = new ArrayList<>();
        for (int v = 1; v <= 9; v++) {
            int to = v;
            keyed.add(new long[] {v, now.lost - after(n, w -> w.all.get(i).hold = to).lost});
        }
        return best(keyed, what, -1);
    }

    int swap(int n, int what) {
        if (out(n, 0, 200) || out(what, 0, 1)) {
            return -1;
        }
        List<long[]> keyed = new ArrayList<>();
        for (int key = 0; key < 50; key++) {
            int a = key / 10;
            int b = key % 10;
            if (a < b && b < now.all.size()) {
                long sent = after(n, w -> change(w, a, b)).sent - now.sent;
                if (sent > runs(n, 0)) {
                    keyed.add(new long[] {key, sent});
                }
            }
        }
        return best(keyed, what, 1);
    }

    int pass(int n, int what) {
        if (out(n, 0, 200) || out(what, 0, 1)) {
            return -1;
        }
        List<long[]> keyed = new ArrayList<>();
        for (int i = 0; i < now.all.size(); i++) {
            World w = now.copy();
            for (int j = 0; j < n; j++) {
                w.visit(w.word == i);
            }
            if (w.lost - now.lost < runs(n, 2)) {
                keyed.add(new long[] {i, now.lost - w.lost});
            }
        }
        return best(keyed, what, -1);
    }

    int begin(int n, int what) {
        if (out(n, 0, 200) || out(what, 0, 1)) {
            return -1;
        }
        List<long[]> keyed = new ArrayList<>();
        for (int i = 0; i < now.all.size(); i++) {
            int at = i;
            keyed.add(new long[] {i, now.time - after(n, w -> w.word = at).time});
        }
        return best(keyed, what, -1);
    }

    /** Over all ways that n visits may go: odds (of ten to the n) times a measure of the end, summed. */
    private static BigInteger over(World w, int v, int n, java.util.function.ToLongFunction<World> measure) {
        if (n == 0) {
            return BigInteger.valueOf(measure.applyAsLong(w));
        }
        World well = w.copy();
        well.visit(false);
        World ill = w.copy();
        ill.visit(true);
        return over(well, v, n - 1, measure).multiply(BigInteger.valueOf(10 - v))
                .add(over(ill, v, n - 1, measure).multiply(BigInteger.valueOf(v)));
    }

    private static long part(BigInteger above, int n, int what) {
        BigInteger below = BigInteger.TEN.pow(n);
        BigInteger common = above.gcd(below);
        return (what == 0 ? above : below).divide(common).longValueExact();
    }

    long luck(int v, int i, int n, int q, int what) {
        if (out(v, 0, 10) || no(i) || out(n, 0, 8) || out(q, 0, 99) || out(what, 0, 1)) {
            return -1;
        }
        return part(over(now, v, n, w -> w.all.get(i).queue <= q ? 1 : 0), n, what);
    }

    long mean(int v, int n, int what) {
        if (out(v, 0, 10) || out(n, 0, 8) || out(what, 0, 1)) {
            return -1;
        }
        return part(over(now, v, n, w -> w.sent - now.sent), n, what);
    }

    int see(int n, int i, int v) {
        if (out(n, 0, 40) || no(i) || out(v, 0, 99)) {
            return -1;
        }
        if (seen.size() == 6) {
            return -3;
        }
        seen.add(new int[] {n, i, v});
        return seen.size();
    }

    int forget(int n) {
        if (out(n, 0, seen.size())) {
            return -1;
        }
        int had = seen.size();
        seen = new ArrayList<>(seen.subList(0, n));
        return had;
    }

    private boolean fits(int i, int what, int v) {
        for (int[] s : seen) {
            if (after(s[0], w -> set(w.all.get(i), what, v)).all.get(s[1]).queue != s[2]) {
                return false;
            }
        }
        return true;
    }

    int kinds(int i) {
        if (no(i)) {
            return -1;
        }
        int bits = 0;
        for (int v = 0; v <= 3; v++) {
            bits += fits(i, 0, v) ? 1 << v : 0;
        }
        return bits;
    }

    int gains(int i) {
        if (no(i)) {
            return -1;
        }
        int bits = 0;
        for (int v = 0; v <= 9; v++) {
            bits += fits(i, 3, v) ? 1 << v : 0;
        }
        return bits;
    }

    int ask(int i, int what) {
        if (no(i) || out(what, 0, 1)) {
            return -1;
        }
        int bits = gains(i);
        List<long[]> keyed = new ArrayList<>();
        for (int n = 0; n <= 40; n++) {
            Map<Integer, Integer> groups = new HashMap<>();
            for (int v = 0; v <= 9; v++) {
                if ((bits & 1 << v) != 0) {
                    int to = v;
                    groups.merge(after(n, w -> w.all.get(i).gain = to).all.get(i).queue, 1, Integer::sum);
                }
            }
            int worst = groups.values().stream().mapToInt(g -> g).max().orElse(0);
            if (worst < Integer.bitCount(bits)) {
                keyed.add(new long[] {n, -worst});
            }
        }
        return best(keyed, what, -1);
    }

    int drift(int seed, int n, int what) {
        if (out(n, 1, 200) || out(what, 0, 1)) {
            return -1;
        }
        if (now.all.isEmpty()) {
            return -2;
        }
        World w = now.copy();
        BigInteger s = BigInteger.valueOf(seed);
        for (int j = 0; j < n; j++) {
            s = s.multiply(BigInteger.valueOf(1103515245)).add(BigInteger.valueOf(12345)).mod(BigInteger.TWO.pow(32));
            int got = s.shiftRight(16).mod(BigInteger.TWO.pow(15)).intValueExact();
            for (int k = 0; k < got / 8 % 10; k++) {
                w.letter(w.all.get(got % w.all.size()));
            }
            w.visit(false);
        }
        return what == 0 ? (int) (w.sent - now.sent) : w.queues();
    }

    int keep(int k) {
        if (out(k, 0, 1)) {
            return -1;
        }
        int was = images[k] == null ? 0 : 1;
        images[k] = now.copy();
        imageSeen.set(k, new ArrayList<>(seen));
        return was;
    }

    int back(int k) {
        if (out(k, 0, 1)) {
            return -1;
        }
        if (images[k] == null) {
            return -2;
        }
        now = images[k].copy();
        seen = new ArrayList<>(imageSeen.get(k));
        return (int) now.visits;
    }

    int sheet(int k, int lane, int n) {
        if (out(k, 0, 3) || out(lane, 0, 2) || n > 40) {
            return -1;
        }
        try {
            sheets[k] = lane == 0 ? new byte[n] : lane == 1 ? new short[n] : new int[n];
            return 1;
        } catch (NegativeArraySizeException e) {
            return -14;
        }
    }

    int lay(int k, int i, int v) {
        if (out(k, 0, 3)) {
            return -1;
        }
        try {
            if (sheets[k] instanceof byte[] b) {
                b[i] = (byte) v;
            } else if (sheets[k] instanceof short[] s) {
                s[i] = (short) v;
            } else {
                ((int[]) sheets[k])[i] = v;
            }
            return 1;
        } catch (NullPointerException e) {
            return -11;
        } catch (ArrayIndexOutOfBoundsException e) {
            return -12;
        }
    }

    private static int cell(Object sheet, int lane, int i) {
        return lane == 0 ? ((byte[]) sheet)[i] : lane == 1 ? ((short[]) sheet)[i] : ((int[]) sheet)[i];
    }

    int read(int k, int lane, int f, int n) {
        if (out(k, 0, 3) || out(lane, 0, 2) || out(n, 0, 20)) {
            return -1;
        }
        List<int[]> pairs = new ArrayList<>();
        int found = 0;
        try {
            for (int j = 0; j < n; j++) {
                int i = cell(sheets[k], lane, f + 2 * j);
                int v = cell(sheets[k], lane, f + 2 * j + 1);
                if (no(i) || out(v, 0, 99)) {
                    return -20 - j;
                }
                pairs.add(new int[] {i, v});
            }
        } catch (NullPointerException e) {
            found = 1;
        } catch (ArrayIndexOutOfBoundsException e) {
            found = 2;
        } catch (ClassCastException e) {
            found = 3;
        }
        for (int[] p : pairs) {
            post(p[0], p[1]);
        }
        torn = found;
        return pairs.size();
    }

    int torn() {
        return torn;
    }

    int count(int what) {
        switch (what) {
            case 0: return seen.size();
            case 1: return (images[0] == null ? 0 : 1) + (images[1] == null ? 0 : 1);
            case 2: return tape.length();
            case 3: return sheets[0] == null ? -4 : java.lang.reflect.Array.getLength(sheets[0]);
            case 4: return now.all.stream().mapToInt(s -> s.link).sum();
            case 5: return now.all.stream().mapToInt(s -> s.gain).sum();
            default: return -1;
        }
    }
}
