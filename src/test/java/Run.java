import java.lang.reflect.InvocationTargetException;
import java.lang.reflect.Method;
import java.lang.reflect.Modifier;
import java.nio.file.Files;
import java.nio.file.Path;
import java.util.ArrayList;
import java.util.HashMap;
import java.util.List;
import java.util.Map;
import java.util.regex.Matcher;
import java.util.regex.Pattern;

/**
 * A run of calls on one object, in rows: "give(1) = 0" is a call and the answer that is due, "give(9) ! BAD" likewise
 * and it leaves all as it was, "give(1)" is a call whose answer is not looked at.
 */
final class Run {
    /** What the document promises of one object. */
    static final int MOST_CALLS = 512;
    private static final Pattern ROW = Pattern.compile("(\\w+)\\(([^)]*)\\)(?: ([=!]) (-?\\w+))?");
    private static final Map<String, Method> FACE = face(RingWord.class);
    private static final Map<String, Method> MODEL = face(Model.class);
    private static final String DOCUMENT = document();
    private static String sentence = "";

    private final RingWord x = new RingWord();
    private final List<String> made = new ArrayList<>();

    private Run() {
    }

    /** The words of the document that the tests from here on are of; they must stand in it. */
    static void about(String words) {
        sentence = words;
        Check.holds("\"" + words + "\" stands in the document", DOCUMENT.isEmpty() || DOCUMENT.contains(words));
    }

    static Run fresh() {
        return new Run();
    }

    static Run of(String text) {
        Run run = new Run();
        run.feed(text).rows("text()", "fault() = 0");
        return run;
    }

    /** A run with something of all there is: letters lost, what is seen, two images, three sheets, both faults. */
    static Run rich() {
        Run run = of("plain 20 3 2 7;meek 9 1 0 1;fair 98 2 9 9;word 1;");
        run.rows("visits(4)", "post(2, 99)").seesAhead(3, 0).seesAhead(9, 2).rows("keep(0) = 0");
        run.rows("visits(3)", "forget(0)").seesAhead(2, 1).seesAhead(5, 0).seesAhead(11, 2).rows("keep(1) = 0");
        run.rows("visits(2)", "forget(0)").seesAhead(4, 0).seesAhead(7, 2);
        run.rows("sheet(0, 0, 4)", "lay(0, 0, 1)", "lay(0, 1, 5)", "lay(0, 3, 7)");
        run.rows("sheet(1, 1, 3)", "lay(1, 0, 2)", "lay(1, 1, 9)", "lay(1, 2, 1)", "sheet(2, 2, 2)", "lay(2, 1, 99)");
        return run.rows("read(0, 1, 0, 1) = 0", "torn() = 3", "feed('?')", "text() = -10", "fault() = 1");
    }

    Run feed(String bytes) {
        for (int j = 0; j < bytes.length(); j++) {
            rows("feed(" + (int) bytes.charAt(j) + ")");
        }
        return this;
    }

    /** Sees what will be: by it some gains are ruled out, not all of them. */
    private Run seesAhead(int n, int i) {
        return rows("see(" + n + ", " + i + ", " + x.ahead(i, n, 0) + ")");
    }

    Run rows(String... rows) {
        for (String row : rows) {
            Matcher m = ROW.matcher(row);
            if (!m.matches()) {
                throw new IllegalArgumentException(row);
            }
            String call = m.group(1) + "(" + m.group(2) + ")";
            if ("!".equals(m.group(3))) {
                leavesAll(call);
            }
            long got = call(x, call);
            if (m.group(3) != null) {
                due(call, got, value(m.group(4)));
            }
            made.add(call);
            if (made.size() > MOST_CALLS) {
                throw new IllegalStateException("one call too many: " + call);
            }
        }
        return this;
    }

    /** A text with a fault: what it answers; the tape is empty then, and all else is as it was. */
    Run fault(String text, int which, int place) {
        String call = "text() of \"" + text + "\"";
        Run with = again().feed(text);
        due(call, call(with.x, "text()"), -10 - place);
        with.made.add("text()");
        due("fault() of " + call, with.x.fault(), which);
        due("bytes on the tape behind " + call, with.x.count(2), 0);
        same(call, Probe.allButFault(made), Probe.allButFault(with.made));
        return this;
    }

    /** A text that is taken: how many lines. */
    Run taken(String text, int lines) {
        feed(text);
        due("text() of \"" + text + "\"", call(x, "text()"), lines);
        made.add("text()");
        return rows("fault() = 0", "count(2) = 0");
    }

    /** A new object on which the same calls have been made. */
    Run again() {
        Run other = new Run();
        other.rows(made.toArray(new String[0]));
        return other;
    }

    List<String> calls() {
        return made;
    }

    static void due(String call, long got, long want) {
        Check.due("[" + sentence + "] " + call, got, want);
    }

    private void leavesAll(String call) {
        List<String> with = new ArrayList<>(made);
        with.add(call);
        same(call, Probe.all(made), Probe.all(with));
    }

    static void same(String call, List<String> was, List<String> is) {
        for (int j = 0; j < was.size() && j < is.size(); j++) {
            if (!was.get(j).equals(is.get(j))) {
                Check.holds("[" + sentence + "] " + call + " leaves all as it was: " + was.get(j) + ", now " + is.get(j),
                        false);
                return;
            }
        }
        Check.holds("[" + sentence + "] " + call + " leaves all as it was", was.size() == is.size());
    }

    /** Calls that change nothing, whose answers are long to work out by hand: they must be those of Model. */
    Run asModel(String... calls) {
        Model model = new Model();
        for (String call : made) {
            call(MODEL, model, call);
        }
        for (String call : calls) {
            rows(call + " ! " + call(MODEL, model, call));
        }
        return this;
    }

    static long call(RingWord on, String call) {
        return call(FACE, on, call);
    }

    private static long call(Map<String, Method> face, Object on, String call) {
        Matcher m = ROW.matcher(call);
        if (!m.matches() || !face.containsKey(m.group(1))) {
            throw new IllegalArgumentException(call);
        }
        String[] told = m.group(2).isEmpty() ? new String[0] : m.group(2).split(", ");
        Object[] values = new Object[told.length];
        for (int j = 0; j < told.length; j++) {
            values[j] = value(told[j]);
        }
        try {
            return ((Number) face.get(m.group(1)).invoke(on, values)).longValue();
        } catch (IllegalAccessException | InvocationTargetException e) {
            throw new IllegalStateException(call, e);
        }
    }

    private static int value(String told) {
        switch (told) {
            case "LOW": return Integer.MIN_VALUE;
            case "HIGH": return Integer.MAX_VALUE;
            case "BAD": return -1;
            case "STATE": return -2;
            case "FULL": return -3;
            case "NONE": return -4;
            default: return told.startsWith("'") ? told.charAt(1) : Integer.parseInt(told);
        }
    }

    private static Map<String, Method> face(Class<?> of) {
        Map<String, Method> face = new HashMap<>();
        for (Method m : of.getDeclaredMethods()) {
            if (!Modifier.isPrivate(m.getModifiers()) && !Modifier.isStatic(m.getModifiers())) {
                face.put(m.getName(), m);
            }
        }
        return face;
    }

    private static String document() {
        try {
            return Files.readString(Path.of("../shared/DOC.md"));
        } catch (java.io.IOException e) {
            return "";
        }
    }
}
