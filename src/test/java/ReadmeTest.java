import java.io.File;
import java.lang.reflect.Method;
import java.nio.file.Files;
import java.nio.file.Path;
import java.util.ArrayList;
import java.util.List;
import java.util.regex.Matcher;
import java.util.regex.Pattern;

/** README.md tells what is so: each call in its examples answers what stands behind it, each test and constant is named. */
public final class ReadmeTest {
    private static final Pattern MADE = Pattern.compile("CreweChange x = new CreweChange\\(\\);");
    private static final Pattern CALLED = Pattern.compile("x\\.(\\w+)\\(([^)]*)\\); *// (-?\\w+)(:.*)?");
    private static final String[] CONSTANTS = {"BAD", "NO", "FULL", "NONE", "NOTHING", "KIND", "INDEX", "SIZE"};
    /** Of the document, 'Terms': what a refused call leaves as it was. */
    private static final String REFUSED = "changes nothing (but the tape and the numbers that wait, where told)";
    private static int wrong = 0;
    private static int calls = 0;
    private static CreweChange x = null;

    public static void main(String[] args) throws Exception {
        String readme = Files.readString(Path.of("README.md"));
        for (String example : examples(readme)) runExample(example);
        due(calls > 0, "there are examples");
        due(readme.contains(REFUSED), "what a refused call changes, as the document has it");
        for (String constant : CONSTANTS) due(readme.contains("`" + constant + "`"), constant + " is named");
        nameTests(readme, "src/test/java");
        System.out.println(wrong == 0 ? calls + " calls of README.md are as due" : wrong + " places of README.md are not as due");
        if (wrong != 0) System.exit(1);
    }

    private static void due(boolean stands, String what) {
        if (!stands) {
            wrong++;
            System.out.println("not as due: " + what);
        }
    }

    private static List<String> examples(String readme) {
        List<String> found = new ArrayList<>();
        Matcher m = Pattern.compile("```java\n(.*?)```", Pattern.DOTALL).matcher(readme);
        while (m.find()) found.add(m.group(1));
        return found;
    }

    /** An example begins with an object of its own; each further row is a call with its answer. */
    private static void runExample(String example) throws Exception {
        x = null;
        for (String row : example.split("\n")) {
            Matcher called = CALLED.matcher(row);
            if (MADE.matcher(row).matches()) x = new CreweChange();
            else if (x != null && called.matches()) runCall(row, called.group(1), called.group(2), called.group(3));
            else due(false, "a row of an example that can't be run: " + row);
        }
    }

    private static void runCall(String row, String name, String told, String answer) throws Exception {
        Object[] arguments = told.isEmpty() ? new Object[0] : new Object[told.split(",").length];
        for (int i = 0; i < arguments.length; i++) arguments[i] = (int) number(told.split(",")[i].trim().replace("CreweChange.", ""));
        for (Method m : CreweChange.class.getMethods()) {
            if (!m.getName().equals(name) || m.getParameterCount() != arguments.length) continue;
            long got = ((Number) m.invoke(x, arguments)).longValue();
            calls++;
            due(got == number(answer), row + " (answered " + got + ")");
            return;
        }
        due(false, "no such call: " + row);
    }

    private static long number(String word) throws Exception {
        return Character.isLetter(word.charAt(0)) ? CreweChange.class.getField(word).getInt(null) : Long.decode(word);
    }

    private static void nameTests(String readme, String folder) {
        String[] files = new File(folder).list();
        due(files != null, folder);
        if (files == null) return;
        for (String file : files) due(readme.contains("`" + file.replace(".java", "") + "`"), file + " is named");
    }
}
