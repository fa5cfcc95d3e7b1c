import java.lang.reflect.Constructor;
import java.lang.reflect.Field;
import java.lang.reflect.Method;
import java.lang.reflect.Modifier;
import java.nio.file.Files;
import java.nio.file.Path;
import java.util.ArrayList;
import java.util.HashSet;
import java.util.List;
import java.util.Set;
import java.util.TreeSet;

/** The face is the document's, no more and no less. */
public final class FaceTest {
    private static int wrong = 0;

    private static final String[] METHODS = {
        "int stop(int)", "int walk(int)", "int train(int,int,int,int)", "int told(int,int)", "int as(int,int)",
        "int turns(int,int)", "int set(int,int,int)", "int chances(int,int,int,int)", "int hangs(int,int)", "int day(int)",
        "int makes(int,int)", "int never(int)", "int mends(int,int,int)", "int add(int)", "int clear()", "int judge()",
        "long plan(int)", "int aim(int,int)", "int mean(int,int)", "int taken(int,int)", "int sure(int,int)",
        "int cheap(int,int)", "int latest(int,int)", "int feed(int,int,int)", "int trim(int)", "int text()",
        "int textTold(int,int)", "int why(int)", "int guest(int,int)", "int part()", "int gather(int)", "int ride(int,int)",
        "int seed(int)", "int sheet(int,int,int)", "int mark(int,int,int)", "int pour(int,int)", "int reads(int,int)",
        "int copy(int,int,int,int,int)", "int lay(int,int,int)", "int ask(int,int)", "int item(int,int)", "int rest(int,int)",
        "int tell(int)", "int check(int)", "int keep()", "int back()", "int count(int)"};

    private static final String[] CONSTANTS = {
        "BAD -1000000001", "NO -1000000002", "FULL -1000000003", "NONE -1000000005", "NOTHING -1000000011",
        "KIND -1000000012", "INDEX -1000000013", "SIZE -1000000014"};

    public static void main(String[] args) throws Exception {
        checkClass();
        checkMethods();
        checkConstants();
        checkSource(Files.readString(Path.of("src/main/java/CreweChange.java")));
        System.out.println(wrong == 0 ? "the face and the source are as due" : wrong + " faults in the face or the source");
        if (wrong != 0) System.exit(1);
    }

    private static void due(boolean stands, String what) {
        if (!stands) {
            wrong++;
            System.out.println("not as due: " + what);
        }
    }

    private static void checkClass() {
        int m = CreweChange.class.getModifiers();
        due(Modifier.isPublic(m) && Modifier.isFinal(m), "public final class");
        Constructor<?>[] all = CreweChange.class.getDeclaredConstructors();
        due(all.length == 1 && Modifier.isPublic(all[0].getModifiers()) && all[0].getParameterCount() == 0, "one public constructor");
    }

    private static void checkMethods() {
        Set<String> want = new TreeSet<>(List.of(METHODS));
        Set<String> got = new TreeSet<>();
        Set<String> publicNames = new HashSet<>();
        List<Method> hidden = new ArrayList<>();
        for (Method m : CreweChange.class.getDeclaredMethods()) {
            if (Modifier.isPrivate(m.getModifiers()) || m.isSynthetic()) {
                hidden.add(m);
                continue;
            }
            due(Modifier.isPublic(m.getModifiers()) && !Modifier.isStatic(m.getModifiers()), "public: " + m);
            due(m.getExceptionTypes().length == 0, "no exceptions: " + m);
            StringBuilder b = new StringBuilder(m.getReturnType() + " " + m.getName() + "(");
            for (int i = 0; i < m.getParameterCount(); i++) b.append(i > 0 ? "," : "").append(m.getParameterTypes()[i]);
            got.add(b.append(")").toString());
            publicNames.add(m.getName());
        }
        due(want.equals(got), "methods " + got);
        for (Method m : hidden) due(!publicNames.contains(m.getName()), "a private method bears a public name: " + m.getName());
        for (Class<?> c : CreweChange.class.getDeclaredClasses())
            for (Method m : c.getDeclaredMethods())
                due(!publicNames.contains(m.getName()) && m.getParameterCount() <= 7, "method of a class inside: " + m);
    }

    private static void checkConstants() throws Exception {
        Set<String> want = new TreeSet<>(List.of(CONSTANTS));
        Set<String> got = new TreeSet<>();
        for (Field f : CreweChange.class.getDeclaredFields()) {
            int m = f.getModifiers();
            if (Modifier.isPrivate(m)) {
                due(!Modifier.isStatic(m) || Modifier.isFinal(m), "static and not final: " + f);
                continue;
            }
            due(Modifier.isPublic(m) && Modifier.isStatic(m) && Modifier.isFinal(m) && f.getType() == int.class, "constant " + f);
            got.add(f.getName() + " " + f.getInt(null));
        }
        due(want.equals(got), "constants " + got);
    }

    private static void checkSource(String source) {
        for (char c : source.toCharArray()) due(c == '\n' || (c >= 32 && c < 127), "a sign of the source: " + (int) c);
        due(!source.contains("package "), "no package line");
    }
}
