import java.io.File;
import java.io.IOException;
import java.lang.reflect.Method;
import java.util.Set;
import java.util.TreeSet;
import java.util.regex.Matcher;
import java.util.regex.Pattern;

/** README.md is read: each of its calls has the answer that stands behind it, and its table has each test. */
public final class ReadmeTest {
    private static final String NEW = "GalleonWave sea = new GalleonWave();";
    private static final Pattern CALL = Pattern.compile("sea\\.(\\w+)\\(([^)]*)\\); +// (throws \\w+|-?[\\w.]+)(:.*)?");
    private static final Pattern ROW = Pattern.compile("\\| `(\\w+)` \\|");

    public static void main(String[] args) throws IOException {
        String readme = Told.read("README.md");
        checkCalls(readme);
        checkTable(readme);
        Check.end("ReadmeTest");
    }

    private static void checkCalls(String readme) {
        Set<String> shown = new TreeSet<>();
        GalleonWave sea = null;
        boolean isJava = false;
        int number = 0;
        for (String line : readme.split("\n")) {
            number++;
            Matcher call = CALL.matcher(line);
            if (line.startsWith("```")) {
                isJava = line.equals("```java");
                sea = null;
            } else if (isJava && line.equals(NEW)) {
                sea = new GalleonWave();
            } else if (isJava && sea != null && call.matches()) {
                shown.add(call.group(1));
                Told.due("README.md, line " + number, sea, call.group(1), call.group(2), call.group(3));
            } else {
                Check.due("README.md, line " + number + " is a call with its answer: " + line, isJava, false);
            }
        }
        Set<String> face = new TreeSet<>();
        for (Method method : GalleonWave.class.getMethods()) {
            if (method.getDeclaringClass() == GalleonWave.class) {
                face.add(method.getName());
            }
        }
        Check.due("README.md shows each call of the face", shown.equals(face), true);
    }

    private static void checkTable(String readme) {
        Set<String> rows = new TreeSet<>();
        Matcher row = ROW.matcher(readme);
        while (row.find()) {
            rows.add(row.group(1) + ".java");
        }
        Set<String> tests = new TreeSet<>();
        for (String name : new File("src/test/java").list()) {
            if (name.endsWith("Test.java")) {
                tests.add(name);
            }
        }
        Check.due("README.md tells of " + tests + ", but has " + rows, rows.equals(tests), true);
    }
}
