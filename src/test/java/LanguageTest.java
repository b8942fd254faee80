import java.lang.management.ManagementFactory;
import java.lang.reflect.Field;
import java.lang.reflect.Method;
import java.lang.reflect.Modifier;
import java.nio.file.Files;
import java.nio.file.Path;
import java.util.ArrayList;
import java.util.Arrays;
import java.util.HashSet;
import java.util.LinkedHashMap;
import java.util.List;
import java.util.Map;
import java.util.Set;
import java.util.TreeSet;
import java.util.regex.Matcher;
import java.util.regex.Pattern;

/** The part of Java that the class keeps to, as far as it can be looked up, and the room that its calls take. */
public final class LanguageTest {
    private static final String[] RULED_OUT = {
        "\\bthrow\\b", "\\bthrows\\b", "\\btry\\b", "\\bcatch\\b", "\\bfinally\\b", "\\bsynchronized\\b",
        "\\bassert\\b", "\\bimport\\b", "\\bpackage\\b", "->", "::", "\\bprotected\\b", "Exact\\b", "\\bSystem\\.(?!arraycopy)",
        "\\bhashCode\\b", "\\btoString\\b", "\\bObject\\b", "\\bRandom\\b", "\\bThread\\b", "MAX_VALUE", "MIN_VALUE",
        "\\bfor\\s*\\(\\s*;\\s*;", "\\bwhile\\s*\\(\\s*true", "\\bdouble\\b", "\\bfloat\\b", "\\[\\]\\s*\\[\\]\\s*\\[\\]",
        "\\bstatic\\s*\\{", "@"};
    private static final Set<String> LIBRARY = new TreeSet<>(Arrays.asList("Math.min", "Math.max", "Integer.bitCount",
            "System.arraycopy"));
    private static final Set<Class<?>> CONSTANTS = new HashSet<>(Arrays.asList(int.class, long.class, boolean.class,
            char.class, String.class, int[].class, long[].class, char[].class, byte[].class));
    private static final Pattern METHOD = Pattern.compile(
            "(?m)^( +)(?:public |private |static )*(?:int|long|boolean|void|RingWord) ?(\\w*)\\([^)]*\\) \\{$");
    private static final int MOST_LINES = 60;
    private static final int MOST_DEEP = 8;
    private static final int MOST_FIELDS = 20;
    private static final int MOST_CLASSES = 12;

    private static String code;

    public static void main(String[] args) throws Exception {
        String source = Files.readString(Path.of("src/main/java/RingWord.java"));
        code = source.replaceAll("(?s)/\\*.*?\\*/", " ").replaceAll("//[^\n]*", " ").replaceAll("\"[^\"\n]*\"", "\"\"");
        Check.holds("signs 1 to 127", source.chars().allMatch(c -> c >= 1 && c <= 127));
        ruledOut();
        library();
        classes();
        methods();
        room();
        Check.close("LanguageTest");
    }

    private static void ruledOut() {
        for (String word : RULED_OUT) {
            Check.holds("no " + word, !Pattern.compile(word).matcher(code).find());
        }
    }

    private static void library() {
        Matcher m = Pattern.compile("\\b([A-Z][a-z]\\w*\\.[a-z]\\w*)\\(").matcher(code);
        while (m.find()) {
            Check.holds(m.group(1) + " is of the library that may be used", LIBRARY.contains(m.group(1)));
        }
    }

    private static List<Class<?>> all() {
        List<Class<?>> all = new ArrayList<>(Arrays.asList(RingWord.class.getDeclaredClasses()));
        all.add(RingWord.class);
        return all;
    }

    private static void classes() {
        Check.holds("some twelve classes at most", all().size() <= MOST_CLASSES);
        for (Class<?> c : all()) {
            int is = c.getModifiers();
            boolean isFace = c == RingWord.class;
            Check.holds(c + " is static", isFace || Modifier.isStatic(is));
            Check.holds(c + " is not public", isFace || !Modifier.isPublic(is) && !Modifier.isProtected(is));
            Check.due("classes inside " + c, isFace ? 0 : c.getDeclaredClasses().length, 0);
            fields(c);
        }
    }

    private static void fields(Class<?> c) {
        int many = 0;
        for (Field f : c.getDeclaredFields()) {
            if (Modifier.isStatic(f.getModifiers())) {
                Check.holds(f + " is a constant", Modifier.isFinal(f.getModifiers()) && CONSTANTS.contains(f.getType()));
            } else {
                many++;
            }
        }
        Check.holds(c + " has " + many + " fields", many <= MOST_FIELDS);
    }

    private static void methods() {
        Set<String> face = new TreeSet<>();
        for (Method m : RingWord.class.getMethods()) {
            face.add(m.getName());
        }
        for (Class<?> c : all()) {
            for (Method m : c.getDeclaredMethods()) {
                Check.holds(m + " takes seven at most", m.getParameterCount() <= 7);
                boolean isOfFace = c == RingWord.class && Modifier.isPublic(m.getModifiers());
                Check.holds(m + " bears a name of its own", isOfFace || !face.contains(m.getName()));
            }
        }
        Map<String, Set<String>> calls = calls();
        Check.holds("all methods are found", calls.keySet().containsAll(Set.of("read", "visit", "sortAt", "fitsBehind")));
        for (String name : calls.keySet()) {
            int deep = depth(calls, name, 1);
            Check.holds(name + "() goes " + deep + " deep", deep <= MOST_DEEP);
        }
    }

    /** By each method's name the names of those that it calls; methods of one name are taken as one. */
    private static Map<String, Set<String>> calls() {
        Map<String, String> bodies = new LinkedHashMap<>();
        Matcher m = METHOD.matcher(code);
        while (m.find()) {
            int end = code.indexOf("\n" + m.group(1) + "}\n", m.end());
            String body = code.substring(m.end(), end);
            Check.holds(m.group(2) + "() is short", body.split("\n").length <= MOST_LINES);
            bodies.merge(m.group(2), body, String::concat);
        }
        Map<String, Set<String>> calls = new LinkedHashMap<>();
        for (String name : bodies.keySet()) {
            Set<String> called = new TreeSet<>();
            Matcher call = Pattern.compile("\\b(\\w+)\\(").matcher(bodies.get(name));
            while (call.find()) {
                if (bodies.containsKey(call.group(1))) {
                    called.add(call.group(1));
                }
            }
            calls.put(name, called);
        }
        return calls;
    }

    /** How many calls stand open at once at most; one more than may, if a method comes back to itself. */
    private static int depth(Map<String, Set<String>> calls, String name, int open) {
        int deepest = open;
        for (String called : calls.get(name)) {
            deepest = Math.max(deepest, open > MOST_DEEP ? open : depth(calls, called, open + 1));
        }
        return deepest;
    }

    /** All calls of one run share a room: an object is made of few parts, and its calls make none. */
    private static void room() {
        com.sun.management.ThreadMXBean bean = (com.sun.management.ThreadMXBean) ManagementFactory.getThreadMXBean();
        long self = Thread.currentThread().getId();
        RingWord x = Check.told("fair 50 3 9 5;greedy 99 9 9 9;meek 9 2 1 1;plain 5 5 5 5;");
        everyCall(x);
        long before = bean.getThreadAllocatedBytes(self);
        everyCall(x);
        long made = bean.getThreadAllocatedBytes(self) - before;
        Check.holds("calls made " + made + " bytes of objects", made < 500);
    }

    private static void everyCall(RingWord x) {
        for (int what = -1; what <= 3; what++) {
            x.feed('?');
            x.end(1);
            x.text();
            x.fault();
            x.rule(what);
            x.station(0, what);
            x.alter(0, 1, 50);
            x.give(what);
            x.post(what, 9);
            x.change(0, what);
            x.runs(200, what);
            x.ahead(1, 200, what);
            x.when(what);
            x.kind(0, 200, what);
            x.hold(0, 200, what);
            x.swap(200, what);
            x.pass(200, what);
            x.begin(200, what);
            x.luck(3, 1, 8, 50, what);
            x.mean(3, 8, what);
            x.see(5, 0, 9);
            x.kinds(what);
            x.gains(what);
            x.ask(0, what);
            x.forget(what);
            x.drift(5, 200, what);
            x.keep(what);
            x.visits(10);
            x.back(what);
            x.sheet(what, 2, 40);
            x.lay(what, 0, 1);
            x.read(what, 2, 0, 20);
            x.torn();
            x.count(what);
        }
    }
}
