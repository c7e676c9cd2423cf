import java.io.IOException;
import java.lang.reflect.Constructor;
import java.lang.reflect.Method;
import java.lang.reflect.Modifier;
import java.util.Arrays;
import java.util.Set;
import java.util.TreeSet;
import java.util.regex.Matcher;
import java.util.regex.Pattern;

/** The document itself is read: its face, what its promises say of it again, and its examples, call by call. */
public final class DocumentTest {
    private static final String DOCUMENT = "../shared/DOC.md";
    private static final Pattern MEMBER = Pattern.compile("(\\w+) (\\w+)\\(([^)]*)\\)(?: throws ([\\w, ]+))?");
    private static final Pattern CALL = Pattern.compile("(\\w+)\\(([^)]*)\\) (?:= ([-\\w]+)|(throws \\w+))");

    public static void main(String[] args) throws IOException {
        String document = Told.read(DOCUMENT);
        Set<String> due = new TreeSet<>();
        for (Method method : GalleonWave.class.getDeclaredMethods()) {
            if (Modifier.isPublic(method.getModifiers())) {
                due.add(signature(method));
            }
        }
        Check.due("the face as the document tells it", faceOf(document).equals(due), true);
        Check.due("the face as the promises tell it", promisesOf(document).equals(due), true);
        checkPublic();
        checkExamples(between(document, "Examples:", "Ahead of the calls").replace("```text", "").replace("```", ""));
        Check.end("DocumentTest");
    }

    private static String between(String text, String from, String to) {
        int begin = text.indexOf(from);
        int end = text.indexOf(to, begin);
        Check.due("the document has " + from + " and " + to, begin >= 0 && end > begin, true);
        return text.substring(begin, end);
    }

    private static Set<String> faceOf(String document) {
        Set<String> face = new TreeSet<>();
        for (String line : between(document, "public final class", "```").split("\n")) {
            if (line.startsWith("    public ") && !line.contains("public GalleonWave()")) {
                face.add(member(line));
            }
        }
        return face;
    }

    private static Set<String> promisesOf(String document) {
        Set<String> face = new TreeSet<>();
        for (String line : document.split("\n")) {
            if (line.startsWith("`") && line.contains("`: ") && !line.startsWith("`GalleonWave()`")) {
                face.add(member(line.substring(0, line.indexOf("`: "))));
            }
        }
        return face;
    }

    private static String member(String text) {
        Matcher member = MEMBER.matcher(text);
        Check.due("a member: " + text, member.find(), true);
        String types = member.group(3).replaceAll("(\\w+) \\w+", "$1");
        return member.group(1) + " " + member.group(2) + "(" + types + ") " + member.group(4);
    }

    private static String signature(Method method) {
        return method.getReturnType().getSimpleName() + " " + method.getName() + "(" + names(method.getParameterTypes())
                + ") " + (method.getExceptionTypes().length == 0 ? null : names(method.getExceptionTypes()));
    }

    private static String names(Class<?>[] types) {
        return String.join(", ", Arrays.stream(types).map(Class::getSimpleName).toList());
    }

    /** What others can reach is the face and what each object has; toString and the like are not written anew. */
    private static void checkPublic() {
        for (Method method : GalleonWave.class.getMethods()) {
            Class<?> of = method.getDeclaringClass();
            Check.due(method + " is of the face, or of each object", of == GalleonWave.class || of == Object.class, true);
            Check.due(method + " is of an object", Modifier.isStatic(method.getModifiers()), false);
        }
        for (Constructor<?> constructor : GalleonWave.class.getConstructors()) {
            Check.due("the constructor throws nothing", constructor.getExceptionTypes().length, 0);
        }
        Check.due("fields to be seen", GalleonWave.class.getFields().length, 0);
        Check.due("interfaces", GalleonWave.class.getInterfaces().length, 0);
        Check.due("the class above", GalleonWave.class.getSuperclass() == Object.class, true);
    }

    private static void checkExamples(String text) {
        String[] examples = text.replaceAll("\\s+", " ").split(" - (?=[A-Z])");
        Check.due("examples", examples.length - 1, 4);
        int calls = 0;
        for (int i = 1; i < examples.length; i++) {
            GalleonWave sea = new GalleonWave();
            Matcher call = CALL.matcher(examples[i]);
            while (call.find()) {
                calls++;
                String want = call.group(3) != null ? call.group(3) : call.group(4);
                Told.due("example " + i, sea, call.group(1), call.group(2), want);
            }
        }
        Check.due("calls of the examples", calls, text.replaceAll("[^(]", "").length());
    }
}
