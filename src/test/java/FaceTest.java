import java.lang.reflect.Constructor;
import java.lang.reflect.Field;
import java.lang.reflect.Method;
import java.lang.reflect.Modifier;
import java.nio.file.Files;
import java.nio.file.Path;
import java.util.Arrays;
import java.util.Set;
import java.util.TreeSet;
import java.util.regex.Matcher;
import java.util.regex.Pattern;

/** The public face: the class, its constructor, constants and calls, and none beside them. */
public final class FaceTest {
    private static final String[] FACE = {
        "int feed(int)", "int end(int)", "int text()", "int fault()", "int rule(int)", "int station(int,int)",
        "int alter(int,int,int)", "int give(int)", "int post(int,int)", "int change(int,int)", "int visits(int)",
        "int runs(int,int)", "int ahead(int,int,int)", "int when(int)", "int kind(int,int,int)",
        "int hold(int,int,int)", "int swap(int,int)", "int pass(int,int)", "int begin(int,int)",
        "long luck(int,int,int,int,int)", "long mean(int,int,int)", "int see(int,int,int)", "int forget(int)",
        "int kinds(int)", "int gains(int)", "int ask(int,int)", "int drift(int,int,int)", "int keep(int)",
        "int back(int)", "int sheet(int,int,int)", "int lay(int,int,int)", "int read(int,int,int,int)", "int torn()",
        "int count(int)"};

    public static void main(String[] args) throws Exception {
        methods();
        constructorAndConstants();
        listOfTheDocument();
        Check.close("FaceTest");
    }

    private static String signature(Method m) {
        StringBuilder s = new StringBuilder();
        s.append(m.getReturnType().getSimpleName()).append(' ').append(m.getName()).append('(');
        for (int j = 0; j < m.getParameterCount(); j++) {
            s.append(j == 0 ? "" : ",").append(m.getParameterTypes()[j].getSimpleName());
        }
        return s.append(')').toString();
    }

    private static void methods() {
        Set<String> due = new TreeSet<>(Arrays.asList(FACE));
        Set<String> names = new TreeSet<>();
        for (Method m : RingWord.class.getMethods()) {
            if (m.getDeclaringClass() == RingWord.class) {
                Check.holds(signature(m) + " is of the face", due.remove(signature(m)));
                Check.holds(m.getName() + " is not static", !Modifier.isStatic(m.getModifiers()));
                Check.due(m.getName() + " declares exceptions", m.getExceptionTypes().length, 0);
                names.add(m.getName());
            }
        }
        Check.holds("of the face are missing " + due, due.isEmpty());
        for (Method m : RingWord.class.getDeclaredMethods()) {
            boolean isPublic = Modifier.isPublic(m.getModifiers());
            Check.holds(m.getName() + " is public or private", isPublic || Modifier.isPrivate(m.getModifiers()));
            Check.holds(m.getName() + " bears its own name", isPublic || !names.contains(m.getName()));
            Check.holds(m.getName() + " takes seven at most", m.getParameterCount() <= 7);
        }
    }

    private static void constructorAndConstants() {
        Check.holds("the class is public and final",
                Modifier.isPublic(RingWord.class.getModifiers()) && Modifier.isFinal(RingWord.class.getModifiers()));
        Constructor<?>[] made = RingWord.class.getDeclaredConstructors();
        Check.holds("one public constructor", made.length == 1 && Modifier.isPublic(made[0].getModifiers())
                && made[0].getParameterCount() == 0);
        Set<String> constants = new TreeSet<>();
        for (Field f : RingWord.class.getDeclaredFields()) {
            int is = f.getModifiers();
            if (Modifier.isPublic(is)) {
                constants.add(f.getName());
                Check.holds(f.getName() + " is a constant", Modifier.isStatic(is) && f.getType() == int.class);
            } else {
                Check.holds(f.getName() + " is private", Modifier.isPrivate(is));
            }
            Check.holds(f.getName() + ", if static, is final", !Modifier.isStatic(is) || Modifier.isFinal(is));
        }
        Check.holds("the constants", constants.equals(new TreeSet<>(Arrays.asList("BAD", "STATE", "FULL", "NONE"))));
    }

    /** The list above is the one of the document, in its order. */
    private static void listOfTheDocument() throws Exception {
        String document = Files.readString(Path.of("../shared/DOC.md"));
        Matcher m = Pattern.compile("    public (int|long) (\\w+)\\((.*)\\);").matcher(document);
        int many = 0;
        while (m.find()) {
            String told = m.group(1) + " " + m.group(2) + "(" + m.group(3).replaceAll("int \\w+", "int").replace(", ", ",") + ")";
            Check.holds(told + " is the next of the list", many < FACE.length && FACE[many].equals(told));
            many++;
        }
        Check.due("calls of the document's face", many, FACE.length);
        Check.holds("its constants", document.contains("public static final int BAD = " + RingWord.BAD + ", STATE = "
                + RingWord.STATE + ", FULL = " + RingWord.FULL + ", NONE = " + RingWord.NONE + ";"));
    }
}
