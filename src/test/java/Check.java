import java.nio.charset.StandardCharsets;

/** What the tests share: answers that are due, and rings told by a text. */
final class Check {
    private static final long MOST_SECONDS = 120;
    private static int passed = 0;
    private static int failed = 0;

    static {
        // A call that never comes to an end is a failure too, and must not keep all else from being told.
        Thread watch = new Thread(Check::giveUp);
        watch.setDaemon(true);
        watch.start();
    }

    private Check() {
    }

    private static void giveUp() {
        try {
            Thread.sleep(1000 * MOST_SECONDS);
        } catch (InterruptedException e) {
            return;
        }
        System.out.println("not at an end behind " + MOST_SECONDS + " seconds: " + passed + " passed, " + failed + " failed");
        System.out.flush();
        Runtime.getRuntime().halt(1);
    }

    static void due(String what, long got, long want) {
        if (got == want) {
            passed++;
        } else {
            failed++;
            System.out.println(what + " answered " + got + ", due is " + want);
        }
    }

    static void holds(String what, boolean is) {
        due(what, is ? 1 : 0, 1);
    }

    /** Feeds a text and takes it: what text() answers. */
    static int tell(RingWord x, String text) {
        for (byte c : text.getBytes(StandardCharsets.ISO_8859_1)) {
            x.feed(c);
        }
        return x.text();
    }

    /** A new object that a text without a fault has been told. */
    static RingWord told(String text) {
        RingWord x = new RingWord();
        int lines = tell(x, text);
        holds("text \"" + text + "\" is taken", lines >= 0 && x.fault() == 0);
        return x;
    }

    /** What tells the state (but fault()), for "nothing is changed". */
    static String state(RingWord x) {
        StringBuilder all = new StringBuilder();
        for (int what = 0; what <= 7; what++) {
            all.append(x.rule(what)).append(' ');
        }
        for (int i = 0; i < x.rule(0); i++) {
            for (int what = 0; what <= 6; what++) {
                all.append(x.station(i, what)).append(' ');
            }
            all.append(x.kinds(i)).append(' ').append(x.gains(i)).append(' ');
        }
        for (int what = 0; what <= 5; what++) {
            all.append(x.count(what)).append(' ');
        }
        return all.append(x.torn()).toString();
    }

    static void close(String name) {
        System.out.println(name + ": " + passed + " passed, " + failed + " failed");
        if (failed != 0) {
            System.exit(1);
        }
    }
}
