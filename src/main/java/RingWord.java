/** A word that goes round a ring of stations; the promises that each call keeps are in DOC.md. */
public final class RingWord {
    public static final int BAD = -1, STATE = -2, FULL = -3, NONE = -4;

    private static final int MOST_STATIONS = 5;
    private static final int MOST_QUEUE = 99;
    private static final int MOST_GAIN = 9;
    private static final int MOST_TOLD = 999999;
    private static final int MOST_VISITS = 9999;
    private static final int MOST_AT_ONCE = 100;
    private static final int MOST_AHEAD = 200;
    private static final int MOST_LUCK = 8;
    private static final int MOST_SEEN = 6;
    private static final int MOST_LOOK = 40;
    private static final int MOST_TAPE = 160;
    private static final int MOST_CELLS = 40;
    private static final int MOST_READ = 20;
    private static final int IMAGES = 2;
    private static final int SHEETS = 4;

    /* What stands in a station's row; the first five are those that a text tells and alter() changes. */
    private static final int KIND = 0, QUEUE = 1, HOLD = 2, GAIN = 3, LINK = 4, OWN = 5, TIRED = 6;
    private static final int TRAITS = 7;
    private static final int[] LEAST = {0, 0, 1, 0, 1};
    private static final int[] GREATEST = {3, MOST_QUEUE, 9, MOST_GAIN, 9};

    private static final int PLAIN = 0, GREEDY = 1, MEEK = 2, FAIR = 3;

    private static final int NULL_FAULT = 1, INDEX_FAULT = 2, CAST_FAULT = 3, SIZE_FAULT = 4;

    private final Ring ring = new Ring();
    private final Ring trial = new Ring();
    private final Seen seen = new Seen();
    private final Tape tape = new Tape();
    private final Image[] images = new Image[IMAGES];
    private final Sheet[] sheets = new Sheet[SHEETS];
    private final int[][] looks = new int[MOST_GAIN + 1][MOST_LOOK + 1];
    private int torn;

    public RingWord() {
        for (int k = 0; k < IMAGES; k++) {
            images[k] = new Image();
        }
        for (int k = 0; k < SHEETS; k++) {
            sheets[k] = new Sheet();
        }
    }

    // ---- the text

    public int feed(int c) {
        if (isOutside(c, 0, 127)) {
            return BAD;
        }
        if (tape.length >= MOST_TAPE) {
            return FULL;
        }
        tape.bytes[tape.length] = (byte) c;
        tape.length++;
        return tape.length;
    }

    public int end(int n) {
        if (isOutside(n, 0, tape.length)) {
            return BAD;
        }
        int had = tape.length;
        tape.length = n;
        return had;
    }

    public int text() {
        // The lines go to the trial ring first: a text with a fault must leave what stands as it is.
        int lines = tape.tellAll(trial);
        tape.length = 0;
        if (tape.fault != 0) {
            return -10 - tape.place;
        }
        ring.copyFrom(trial);
        seen.many = 0;
        for (int k = 0; k < IMAGES; k++) {
            images[k].kept = false;
        }
        return lines;
    }

    public int fault() {
        return tape.fault;
    }

    public int rule(int what) {
        switch (what) {
            case 0: return ring.stations;
            case 1: return ring.word;
            case 2: return ring.time;
            case 3: return ring.visited;
            case 4: return ring.sent;
            case 5: return ring.lost;
            case 6: return ring.total(QUEUE);
            case 7: return ring.due();
            default: return BAD;
        }
    }

    public int station(int i, int what) {
        if (!ring.has(i) || isOutside(what, 0, TRAITS - 1)) {
            return BAD;
        }
        return ring.rows[i][what];
    }

    // ---- what is changed

    public int alter(int i, int what, int v) {
        if (!ring.has(i) || isOutside(what, KIND, LINK) || isOutside(v, LEAST[what], GREATEST[what])) {
            return BAD;
        }
        int was = ring.rows[i][what];
        ring.rows[i][what] = v;
        return was;
    }

    public int give(int i) {
        if (!ring.has(i)) {
            return BAD;
        }
        int had = ring.word;
        ring.word = i;
        return had;
    }

    public int post(int i, int n) {
        if (!ring.takes(i, n)) {
            return BAD;
        }
        int over = ring.add(i, n);
        ring.cut();
        return over;
    }

    public int change(int i, int k) {
        if (!ring.has(i) || !ring.has(k) || i == k) {
            return BAD;
        }
        ring.exchange(i, k);
        return ring.stations;
    }

    // ---- visits

    public int visits(int n) {
        if (isOutside(n, 0, MOST_AT_ONCE)) {
            return BAD;
        }
        if (ring.visited + n > MOST_VISITS) {
            return FULL;
        }
        int letters = 0;
        for (int j = 0; j < n; j++) {
            letters += ring.visit(true);
        }
        ring.cut();
        return letters;
    }

    public int runs(int n, int what) {
        if (isOutside(n, 0, MOST_AHEAD) || isOutside(what, 0, 3)) {
            return BAD;
        }
        startTrial();
        trial.go(n);
        switch (what) {
            case 0: return trial.sent;
            case 1: return trial.time - ring.time;
            case 2: return trial.lost;
            default: return trial.total(QUEUE);
        }
    }

    public int ahead(int i, int n, int what) {
        if (!ring.has(i) || isOutside(n, 0, MOST_AHEAD) || isOutside(what, 0, 2)) {
            return BAD;
        }
        startTrial();
        int[] row = trial.rows[i];
        int longest = row[QUEUE];
        for (int j = 0; j < n; j++) {
            trial.visit(true);
            longest = Math.max(longest, row[QUEUE]);
        }
        switch (what) {
            case 0: return row[QUEUE];
            case 1: return row[OWN] - ring.rows[i][OWN];
            default: return longest;
        }
    }

    public int when(int i) {
        if (!ring.has(i)) {
            return BAD;
        }
        startTrial();
        int[] row = trial.rows[i];
        for (int n = 0; n <= MOST_AHEAD; n++) {
            if (row[QUEUE] == 0) {
                return n;
            }
            trial.visit(true);
        }
        return NONE;
    }

    // ---- what is best

    public int kind(int i, int n, int what) {
        if (!ring.has(i) || isOutside(n, 0, MOST_AHEAD) || isOutside(what, 0, 1)) {
            return BAD;
        }
        int best = NONE;
        int most = 0;
        for (int v = LEAST[KIND]; v <= GREATEST[KIND]; v++) {
            startTrialWith(i, KIND, v);
            trial.go(n);
            if (best == NONE || trial.sent > most) {
                most = trial.sent;
                best = v;
            }
        }
        return what == 0 ? best : most;
    }

    public int hold(int i, int n, int what) {
        if (!ring.has(i) || isOutside(n, 0, MOST_AHEAD) || isOutside(what, 0, 1)) {
            return BAD;
        }
        int best = NONE;
        int fewest = 0;
        for (int v = LEAST[HOLD]; v <= GREATEST[HOLD]; v++) {
            startTrialWith(i, HOLD, v);
            trial.go(n);
            if (best == NONE || trial.lost < fewest) {
                fewest = trial.lost;
                best = v;
            }
        }
        return what == 0 ? best : fewest;
    }

    public int swap(int n, int what) {
        if (isOutside(n, 0, MOST_AHEAD) || isOutside(what, 0, 1)) {
            return BAD;
        }
        startTrial();
        trial.go(n);
        int most = trial.sent;
        int best = NONE;
        for (int i = 0; i < ring.stations; i++) {
            for (int k = i + 1; k < ring.stations; k++) {
                startTrial();
                trial.exchange(i, k);
                trial.go(n);
                if (trial.sent > most) {
                    most = trial.sent;
                    best = 10 * i + k;
                }
            }
        }
        return best == NONE || what == 0 ? best : most;
    }

    public int pass(int n, int what) {
        if (isOutside(n, 0, MOST_AHEAD) || isOutside(what, 0, 1)) {
            return BAD;
        }
        startTrial();
        trial.go(n);
        int fewest = trial.lost;
        int best = NONE;
        for (int i = 0; i < ring.stations; i++) {
            startTrial();
            for (int j = 0; j < n; j++) {
                trial.visit(trial.word != i);
            }
            if (trial.lost < fewest) {
                fewest = trial.lost;
                best = i;
            }
        }
        return best == NONE || what == 0 ? best : fewest;
    }

    public int begin(int n, int what) {
        if (isOutside(n, 0, MOST_AHEAD) || isOutside(what, 0, 1)) {
            return BAD;
        }
        int least = 0;
        int best = NONE;
        for (int i = 0; i < ring.stations; i++) {
            startTrial();
            trial.word = i;
            trial.go(n);
            int takes = trial.time - ring.time;
            if (best == NONE || takes < least) {
                least = takes;
                best = i;
            }
        }
        return best == NONE || what == 0 ? best : least;
    }

    // ---- visits that fail

    public long luck(int v, int i, int n, int q, int what) {
        if (isOutside(v, 0, 10) || !ring.has(i) || isOutside(n, 0, MOST_LUCK)
                || isOutside(q, 0, MOST_QUEUE) || isOutside(what, 0, 1)) {
            return BAD;
        }
        long chances = 0;
        for (int failing = 0; failing < 1 << n; failing++) {
            long chance = chanceOf(failing, n, v);
            if (chance > 0) {
                tryFailing(failing, n);
                chances += trial.rows[i][QUEUE] <= q ? chance : 0;
            }
        }
        return partOfFraction(chances, n, what);
    }

    public long mean(int v, int n, int what) {
        if (isOutside(v, 0, 10) || isOutside(n, 0, MOST_LUCK) || isOutside(what, 0, 1)) {
            return BAD;
        }
        long weighed = 0;
        for (int failing = 0; failing < 1 << n; failing++) {
            long chance = chanceOf(failing, n, v);
            if (chance > 0) {
                tryFailing(failing, n);
                weighed += chance * trial.sent;
            }
        }
        return partOfFraction(weighed, n, what);
    }

    // ---- from queues

    public int see(int n, int i, int v) {
        if (isOutside(n, 0, MOST_LOOK) || !ring.has(i) || isOutside(v, 0, MOST_QUEUE)) {
            return BAD;
        }
        if (seen.many >= MOST_SEEN) {
            return FULL;
        }
        seen.add(n, i, v);
        return seen.many;
    }

    public int forget(int n) {
        if (isOutside(n, 0, seen.many)) {
            return BAD;
        }
        int had = seen.many;
        seen.many = n;
        return had;
    }

    public int kinds(int i) {
        return ring.has(i) ? fitting(i, KIND) : BAD;
    }

    public int gains(int i) {
        return ring.has(i) ? fitting(i, GAIN) : BAD;
    }

    public int ask(int i, int what) {
        if (!ring.has(i) || isOutside(what, 0, 1)) {
            return BAD;
        }
        int left = fitting(i, GAIN);
        lookAhead(i, left);
        int fewest = Integer.bitCount(left);
        int best = NONE;
        for (int n = 0; n <= MOST_LOOK; n++) {
            int worst = worstLeft(left, n);
            if (worst < fewest) {
                fewest = worst;
                best = n;
            }
        }
        return best == NONE || what == 0 ? best : fewest;
    }

    // ---- by a seed

    public int drift(int seed, int n, int what) {
        if (isOutside(n, 1, MOST_AHEAD) || isOutside(what, 0, 1)) {
            return BAD;
        }
        if (ring.stations == 0) {
            return STATE;
        }
        startTrial();
        int s = seed;
        for (int j = 0; j < n; j++) {
            s = s * 1103515245 + 12345;
            int got = s >>> 16 & 0x7fff;
            trial.add(got % ring.stations, got / 8 % 10);
            trial.visit(true);
        }
        return what == 0 ? trial.sent : trial.total(QUEUE);
    }

    // ---- images, sheets

    public int keep(int k) {
        if (isOutside(k, 0, IMAGES - 1)) {
            return BAD;
        }
        Image image = images[k];
        boolean was = image.kept;
        image.ring.copyFrom(ring);
        image.seen.copyFrom(seen);
        image.kept = true;
        return was ? 1 : 0;
    }

    public int back(int k) {
        if (isOutside(k, 0, IMAGES - 1)) {
            return BAD;
        }
        Image image = images[k];
        if (!image.kept) {
            return STATE;
        }
        ring.copyFrom(image.ring);
        seen.copyFrom(image.seen);
        return ring.visited;
    }

    public int sheet(int k, int lane, int n) {
        if (isOutside(k, 0, SHEETS - 1) || isOutside(lane, 0, Sheet.INTS) || n > MOST_CELLS) {
            return BAD;
        }
        if (n < 0) {
            return -10 - SIZE_FAULT;
        }
        sheets[k].renew(lane, n);
        return 1;
    }

    public int lay(int k, int i, int v) {
        if (isOutside(k, 0, SHEETS - 1)) {
            return BAD;
        }
        Sheet sheet = sheets[k];
        int found = sheet.faultAt(sheet.lane, i);
        if (found != 0) {
            return -10 - found;
        }
        sheet.write(i, v);
        return 1;
    }

    public int read(int k, int lane, int f, int n) {
        if (isOutside(k, 0, SHEETS - 1) || isOutside(lane, 0, Sheet.INTS) || isOutside(n, 0, MOST_READ)) {
            return BAD;
        }
        int[] cells = sheets[k].cells;
        int found = 0;
        int whole = 0;
        // All are looked at before the first comes: one that is refused must leave the queues as they are.
        for (int j = 0; j < n && found == 0; j++) {
            int at = f + 2 * j;
            found = sheets[k].faultOfPair(lane, at);
            if (found == 0) {
                if (!ring.takes(cells[at], cells[at + 1])) {
                    return -20 - j;
                }
                whole++;
            }
        }
        for (int j = 0; j < whole; j++) {
            ring.add(cells[f + 2 * j], cells[f + 2 * j + 1]);
        }
        ring.cut();
        torn = found;
        return whole;
    }

    public int torn() {
        return torn;
    }

    public int count(int what) {
        switch (what) {
            case 0: return seen.many;
            case 1: return keptImages();
            case 2: return tape.length;
            case 3: return sheets[0].size;
            case 4: return ring.total(LINK);
            case 5: return ring.total(GAIN);
            default: return BAD;
        }
    }

    // ---- what the calls share

    private static boolean isOutside(int v, int least, int greatest) {
        return v < least || v > greatest;
    }

    private void startTrial() {
        trial.copyFrom(ring);
        // What is told of a trial is what happens in it, uncut, so it counts from nothing.
        trial.sent = 0;
        trial.lost = 0;
    }

    private void startTrialWith(int i, int trait, int v) {
        startTrial();
        trial.rows[i][trait] = v;
    }

    /** How many of all ten to the n cases fail in just those visits whose bits are set. */
    private static long chanceOf(int failing, int n, int v) {
        long chance = 1;
        for (int j = 0; j < n; j++) {
            chance *= isFailing(failing, j) ? v : 10 - v;
        }
        return chance;
    }

    private static boolean isFailing(int failing, int j) {
        return (failing >> j & 1) == 1;
    }

    private void tryFailing(int failing, int n) {
        startTrial();
        for (int j = 0; j < n; j++) {
            trial.visit(!isFailing(failing, j));
        }
    }

    /** The numerator or the denominator of a number by ten to the n, in lowest terms. */
    private static long partOfFraction(long above, int n, int what) {
        long below = 1;
        for (int j = 0; j < n; j++) {
            below *= 10;
        }
        long divisor = commonDivisor(above, below);
        long part = what == 0 ? above : below;
        return divisor > 1 ? part / divisor : part;
    }

    private static long commonDivisor(long a, long b) {
        long rest = a;
        long divisor = b;
        for (int steps = 0; steps < 200 && rest > 0; steps++) {
            long next = divisor % rest;
            divisor = rest;
            rest = next;
        }
        return divisor;
    }

    /** Bits: the values of a station's trait by which all is as seen. */
    private int fitting(int i, int trait) {
        int bits = 0;
        for (int v = LEAST[trait]; v <= GREATEST[trait]; v++) {
            startTrialWith(i, trait, v);
            if (seen.fits(trial)) {
                bits |= 1 << v;
            }
        }
        return bits;
    }

    /** Fills in, by each gain that is left, the queue of a station behind each number of visits. */
    private void lookAhead(int i, int left) {
        for (int g = 0; g <= MOST_GAIN; g++) {
            if ((left >> g & 1) == 1) {
                startTrialWith(i, GAIN, g);
                for (int n = 0; n <= MOST_LOOK; n++) {
                    looks[g][n] = trial.rows[i][QUEUE];
                    trial.visit(true);
                }
            }
        }
    }

    /** How many gains would be left, at most, when one has looked behind n visits. */
    private int worstLeft(int left, int n) {
        int worst = 0;
        for (int g = 0; g <= MOST_GAIN; g++) {
            if ((left >> g & 1) == 1) {
                worst = Math.max(worst, alike(left, n, looks[g][n]));
            }
        }
        return worst;
    }

    private int alike(int left, int n, int queue) {
        int many = 0;
        for (int g = 0; g <= MOST_GAIN; g++) {
            if ((left >> g & 1) == 1 && looks[g][n] == queue) {
                many++;
            }
        }
        return many;
    }

    private int keptImages() {
        int many = 0;
        for (int k = 0; k < IMAGES; k++) {
            many += images[k].kept ? 1 : 0;
        }
        return many;
    }

    /** The stations, the word among them, and what has happened so far. */
    private static final class Ring {
        final int[][] rows = new int[MOST_STATIONS][TRAITS];
        int stations;
        int word = NONE;
        int time;
        int visited;
        int sent;
        int lost;

        void clear() {
            stations = 0;
            word = NONE;
            time = 0;
            visited = 0;
            sent = 0;
            lost = 0;
        }

        void copyFrom(Ring other) {
            for (int i = 0; i < other.stations; i++) {
                System.arraycopy(other.rows[i], 0, rows[i], 0, TRAITS);
            }
            stations = other.stations;
            word = other.word;
            time = other.time;
            visited = other.visited;
            sent = other.sent;
            lost = other.lost;
        }

        boolean has(int i) {
            return i >= 0 && i < stations;
        }

        boolean takes(int i, int n) {
            return has(i) && !isOutside(n, 0, MOST_QUEUE);
        }

        int total(int trait) {
            int sum = 0;
            for (int i = 0; i < stations; i++) {
                sum += rows[i][trait];
            }
            return sum;
        }

        void exchange(int i, int k) {
            int[] row = rows[i];
            rows[i] = rows[k];
            rows[k] = row;
        }

        /** How many who has the word would send now. */
        int due() {
            if (!has(word)) {
                return 0;
            }
            int[] row = rows[word];
            int kind = row[KIND];
            if (kind == FAIR && row[TIRED] == 1) {
                return 0;
            }
            int most = kind == GREEDY ? 2 * row[HOLD] : row[HOLD];
            int letters = Math.min(most, row[QUEUE]);
            boolean yields = kind == MEEK || kind == FAIR;
            return yields && letters > 0 && isLonger(row[QUEUE]) ? letters - 1 : letters;
        }

        /** Whether there is a queue longer than that of who has the word, which is never its own. */
        private boolean isLonger(int queue) {
            for (int i = 0; i < stations; i++) {
                if (rows[i][QUEUE] > queue) {
                    return true;
                }
            }
            return false;
        }

        void go(int n) {
            for (int j = 0; j < n; j++) {
                visit(true);
            }
        }

        /** A visit; how many are sent in it. */
        int visit(boolean maySend) {
            visited++;
            if (!has(word)) {
                return 0;
            }
            int[] row = rows[word];
            int letters = maySend ? due() : 0;
            row[QUEUE] -= letters;
            row[OWN] += letters;
            row[TIRED] = letters > 0 ? 1 : 0;
            sent += letters;
            int before = time;
            time += letters + row[LINK];
            come(time / 10 - before / 10);
            word = word + 1 < stations ? word + 1 : 0;
            return letters;
        }

        private void come(int times) {
            if (times > 0) {
                for (int i = 0; i < stations; i++) {
                    add(i, times * rows[i][GAIN]);
                }
            }
        }

        /** Letters come to a queue; how many of them are lost. */
        int add(int i, int n) {
            int[] row = rows[i];
            int came = Math.min(n, MOST_QUEUE - row[QUEUE]);
            row[QUEUE] += came;
            lost += n - came;
            return n - came;
        }

        void cut() {
            time = Math.min(time, MOST_TOLD);
            sent = Math.min(sent, MOST_TOLD);
            lost = Math.min(lost, MOST_TOLD);
        }
    }

    /** Queues that were seen: behind how many visits, of which station, how long. */
    private static final class Seen {
        final int[] behind = new int[MOST_SEEN];
        final int[] who = new int[MOST_SEEN];
        final int[] queue = new int[MOST_SEEN];
        int many;

        void add(int n, int i, int v) {
            behind[many] = n;
            who[many] = i;
            queue[many] = v;
            many++;
        }

        void copyFrom(Seen other) {
            System.arraycopy(other.behind, 0, behind, 0, MOST_SEEN);
            System.arraycopy(other.who, 0, who, 0, MOST_SEEN);
            System.arraycopy(other.queue, 0, queue, 0, MOST_SEEN);
            many = other.many;
        }

        /** Whether a ring goes as seen from now on; the ring makes its visits by it. */
        boolean fits(Ring ring) {
            int last = latest();
            boolean fits = fitsBehind(ring, 0);
            for (int n = 1; n <= last && fits; n++) {
                ring.visit(true);
                fits = fitsBehind(ring, n);
            }
            return fits;
        }

        private int latest() {
            int last = 0;
            for (int j = 0; j < many; j++) {
                last = Math.max(last, behind[j]);
            }
            return last;
        }

        private boolean fitsBehind(Ring ring, int n) {
            for (int j = 0; j < many; j++) {
                if (behind[j] == n && ring.has(who[j]) && ring.rows[who[j]][QUEUE] != queue[j]) {
                    return false;
                }
            }
            return true;
        }
    }

    private static final class Image {
        final Ring ring = new Ring();
        final Seen seen = new Seen();
        boolean kept;
    }

    /** A row of cells; size and lane are NONE while it is nothing. */
    private static final class Sheet {
        static final int BYTES = 0, SHORTS = 1, INTS = 2;
        final int[] cells = new int[MOST_CELLS];
        int lane = NONE;
        int size = NONE;

        void renew(int newLane, int n) {
            lane = newLane;
            size = n;
            for (int i = 0; i < MOST_CELLS; i++) {
                cells[i] = 0;
            }
        }

        void write(int i, int v) {
            switch (lane) {
                case BYTES: cells[i] = (byte) v; break;
                case SHORTS: cells[i] = (short) v; break;
                default: cells[i] = v; break;
            }
        }

        /** What the machine would find at cell i of this sheet taken as of a lane; 0: nothing. */
        int faultAt(int asLane, int i) {
            if (size == NONE) {
                return NULL_FAULT;
            }
            if (asLane != lane) {
                return CAST_FAULT;
            }
            return isOutside(i, 0, size - 1) ? INDEX_FAULT : 0;
        }

        int faultOfPair(int asLane, int i) {
            int found = faultAt(asLane, i);
            return found != 0 ? found : faultAt(asLane, i + 1);
        }
    }

    /** The bytes fed, and the reading of them token by token. */
    private static final class Tape {
        static final int END = 0, NAME = 1, NUMBER = 2, SEMICOLON = 3, OTHER = 4;
        static final int WORD_LINE = 4;
        final byte[] bytes = new byte[MOST_TAPE];
        int length;
        int fault;
        int place;
        private int next;
        private int sort;
        private int from;

        /** Tells all lines to a ring: how many; of no use, if there is a fault then. */
        int tellAll(Ring ring) {
            ring.clear();
            fault = 0;
            next = 0;
            int lines = 0;
            advance();
            while (fault == 0 && sort != END && lines < MOST_TAPE) {
                takeLine(ring);
                lines++;
                if (fault == 0) {
                    advance();
                }
            }
            placeWord(ring);
            return lines;
        }

        private void placeWord(Ring ring) {
            if (ring.word == NONE) {
                ring.word = ring.stations > 0 ? 0 : NONE;
            } else if (fault == 0 && !ring.has(ring.word)) {
                blame(6, length);
            }
        }

        private void takeLine(Ring ring) {
            int begun = lineBegun();
            if (begun == NONE) {
                blame(2, from);
            } else if (begun == WORD_LINE) {
                takeWord(ring);
            } else {
                takeStation(ring, begun);
            }
            if (fault == 0) {
                advance();
                require(SEMICOLON);
            }
        }

        private void takeWord(Ring ring) {
            if (ring.word != NONE) {
                blame(4, from);
            } else {
                ring.word = takeNumber(0, MOST_STATIONS - 1);
            }
        }

        private void takeStation(Ring ring, int kind) {
            if (ring.stations >= MOST_STATIONS) {
                blame(5, from);
                return;
            }
            int[] row = ring.rows[ring.stations];
            row[KIND] = kind;
            for (int trait = QUEUE; trait <= LINK && fault == 0; trait++) {
                row[trait] = takeNumber(LEAST[trait], GREATEST[trait]);
            }
            row[OWN] = 0;
            row[TIRED] = 0;
            ring.stations++;
        }

        /** The kind whose name the token is, WORD_LINE, or NONE. */
        private int lineBegun() {
            if (sort != NAME) {
                return NONE;
            }
            if (isNamed("plain")) {
                return PLAIN;
            }
            if (isNamed("greedy")) {
                return GREEDY;
            }
            if (isNamed("meek")) {
                return MEEK;
            }
            if (isNamed("fair")) {
                return FAIR;
            }
            return isNamed("word") ? WORD_LINE : NONE;
        }

        private boolean isNamed(String name) {
            if (next - from != name.length()) {
                return false;
            }
            for (int j = 0; j < name.length(); j++) {
                if (bytes[from + j] != name.charAt(j)) {
                    return false;
                }
            }
            return true;
        }

        private int takeNumber(int least, int greatest) {
            advance();
            require(NUMBER);
            if (fault != 0) {
                return 0;
            }
            int value = 0;
            for (int j = from; j < next; j++) {
                value = 10 * value + bytes[j] - '0';
            }
            if (isOutside(value, least, greatest)) {
                blame(3, from);
            }
            return value;
        }

        private void require(int wanted) {
            if (fault == 0 && sort != wanted) {
                blame(2, from);
            }
        }

        private void advance() {
            while (next < length && bytes[next] == ' ') {
                next++;
            }
            from = next;
            sort = sortAt(from);
            if (sort != END) {
                next++;
            }
            boolean goesOn = sort == NAME || sort == NUMBER;
            while (goesOn && next < length && sortAt(next) == sort) {
                next++;
            }
            if (sort == OTHER || sort == NUMBER && next - from > 2) {
                blame(1, from);
            }
        }

        private int sortAt(int i) {
            if (i >= length) {
                return END;
            }
            int c = bytes[i];
            if (c >= 'a' && c <= 'z') {
                return NAME;
            }
            if (c >= '0' && c <= '9') {
                return NUMBER;
            }
            return c == ';' ? SEMICOLON : OTHER;
        }

        private void blame(int which, int where) {
            fault = which;
            place = where;
        }
    }
}
