import java.lang.management.ManagementFactory;
import java.lang.reflect.Constructor;
import java.lang.reflect.Field;
import java.lang.reflect.Method;
import java.lang.reflect.Modifier;
import java.nio.file.Files;
import java.nio.file.Path;
import java.util.Arrays;
import java.util.Set;
import java.util.TreeSet;
import java.util.regex.Pattern;

/** The public face, the part of Java that the class keeps to, and the room that its calls take. */
public final class FaceTest {
    private static final String[] FACE = {
        "int feed(int)", "int end(int)", "int text()", "int fault()", "int rule(int)", "int station(int,int)",
        "int alter(int,int,int)", "int give(int)", "int post(int,int)", "int change(int,int)", "int visits(int)",
        "int runs(int,int)", "int ahead(int,int,int)", "int when(int)", "int kind(int,int,int)",
        "int hold(int,int,int)", "int swap(int,int)", "int pass(int,int)", "int begin(int,int)",
        "long luck(int,int,int,int,int)", "long mean(int,int,int)", "int see(int,int,int)", "int forget(int)",
        "int kinds(int)", "int gains(int)", "int ask(int,int)", "int drift(int,int,int)", "int keep(int)",
        "int back(int)", "int sheet(int,int,int)", "int lay(int,int,int)", "int read(int,int,int,int)", "int torn()",
        "int count(int)"};
    private static final String[] RULED_OUT = {
        "\\bthrow\\b", "\\bthrows\\b", "\\btry\\b", "\\bcatch\\b", "\\bfinally\\b", "\\bsynchronized\\b",
        "\\bassert\\b", "\\bimport\\b", "\\bpackage\\b", "->", "::", "\\bprotected\\b", "Exact\\b", "\\bSystem\\.(?!arraycopy)",
        "\\bhashCode\\b", "\\btoString\\b", "\\bObject\\b", "\\bRandom\\b", "\\bThread\\b", "MAX_VALUE", "MIN_VALUE",
        "\\bfor\\s*\\(\\s*;\\s*;", "\\bwhile\\s*\\(\\s*true"};

    public static void main(String[] args) throws Exception {
        methods();
        constructorAndConstants();
        classesInside();
        ruledOut();
        room();
        Check.close("FaceTest");
    }

    private static String signature(Method m) {
        StringBuilder s = new StringBuilder();
        s.append(m.getReturnType().getSimpleName()).append(' ').append(m.getName()).append('(');
        for (int j = 0; j < m.getParameterCount(); j++) {
            s.append(j == 0 ? "" : ",").append(m.getParameterTypes()[j].getSimpleName());
        }
        return s.append(')').toString();
    }

    private static void methods() {
        Set<String> due = new TreeSet<>(Arrays.asList(FACE));
        Set<String> names = new TreeSet<>();
        for (Method m : RingWord.class.getMethods()) {
            if (m.getDeclaringClass() == RingWord.class) {
                Check.holds(signature(m) + " is of the face", due.remove(signature(m)));
                Check.holds(m.getName() + " is not static", !Modifier.isStatic(m.getModifiers()));
                Check.due(m.getName() + " declares exceptions", m.getExceptionTypes().length, 0);
                names.add(m.getName());
            }
        }
        Check.holds("of the face are missing " + due, due.isEmpty());
        for (Method m : RingWord.class.getDeclaredMethods()) {
            boolean isPublic = Modifier.isPublic(m.getModifiers());
            Check.holds(m.getName() + " is public or private", isPublic || Modifier.isPrivate(m.getModifiers()));
            Check.holds(m.getName() + " bears its own name", isPublic || !names.contains(m.getName()));
            Check.holds(m.getName() + " takes seven at most", m.getParameterCount() <= 7);
        }
    }

    private static void constructorAndConstants() {
        Check.holds("the class is public and final",
                Modifier.isPublic(RingWord.class.getModifiers()) && Modifier.isFinal(RingWord.class.getModifiers()));
        Constructor<?>[] made = RingWord.class.getDeclaredConstructors();
        Check.holds("one public constructor", made.length == 1 && Modifier.isPublic(made[0].getModifiers())
                && made[0].getParameterCount() == 0);
        Set<String> constants = new TreeSet<>();
        for (Field f : RingWord.class.getDeclaredFields()) {
            int is = f.getModifiers();
            if (Modifier.isPublic(is)) {
                constants.add(f.getName());
                Check.holds(f.getName() + " is a constant", Modifier.isStatic(is) && f.getType() == int.class);
            } else {
                Check.holds(f.getName() + " is private", Modifier.isPrivate(is));
            }
            Check.holds(f.getName() + ", if static, is final", !Modifier.isStatic(is) || Modifier.isFinal(is));
        }
        Check.holds("the constants", constants.equals(new TreeSet<>(Arrays.asList("BAD", "STATE", "FULL", "NONE"))));
    }

    private static void classesInside() {
        Class<?>[] inside = RingWord.class.getDeclaredClasses();
        Check.holds("some twelve classes at most", inside.length <= 11);
        for (Class<?> c : inside) {
            int is = c.getModifiers();
            Check.holds(c + " is static", Modifier.isStatic(is));
            Check.holds(c + " is not public", !Modifier.isPublic(is) && !Modifier.isProtected(is));
        }
    }

    private static void ruledOut() throws Exception {
        String source = Files.readString(Path.of("src/main/java/RingWord.java"));
        String code = source.replaceAll("(?s)/\\*.*?\\*/", " ").replaceAll("//[^\n]*", " ")
                .replaceAll("\"[^\"\n]*\"", "\"\"");
        for (String word : RULED_OUT) {
            Check.holds("no " + word, !Pattern.compile(word).matcher(code).find());
        }
        Check.holds("signs 1 to 127", source.chars().allMatch(c -> c >= 1 && c <= 127));
    }

    /** All calls of one run share a room: an object is made of few parts, and its calls make none. */
    private static void room() {
        com.sun.management.ThreadMXBean bean = (com.sun.management.ThreadMXBean) ManagementFactory.getThreadMXBean();
        long self = Thread.currentThread().getId();
        RingWord x = Check.told("fair 50 3 9 5;greedy 99 9 9 9;meek 9 2 1 1;plain 5 5 5 5;");
        everyCall(x);
        long before = bean.getThreadAllocatedBytes(self);
        everyCall(x);
        long made = bean.getThreadAllocatedBytes(self) - before;
        Check.holds("calls made " + made + " bytes of objects", made < 500);
    }

    private static void everyCall(RingWord x) {
        for (int what = -1; what <= 3; what++) {
            x.feed('?');
            x.text();
            x.runs(200, what);
            x.ahead(1, 200, what);
            x.when(what);
            x.kind(0, 200, what);
            x.hold(0, 200, what);
            x.swap(200, what);
            x.pass(200, what);
            x.begin(200, what);
            x.luck(3, 1, 8, 50, what);
            x.mean(3, 8, what);
            x.see(5, 0, 9);
            x.kinds(what);
            x.gains(what);
            x.ask(0, what);
            x.drift(5, 200, what);
            x.keep(what);
            x.visits(10);
            x.back(what);
            x.sheet(what, 2, 40);
            x.lay(what, 0, 1);
            x.read(what, 2, 0, 20);
        }
    }
}
