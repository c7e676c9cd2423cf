import java.io.IOException;
import java.nio.file.Files;
import java.nio.file.Path;
import java.util.List;
import java.util.Set;
import java.util.regex.Pattern;

/** What of LANGUAGE.md can be read off the text of the class, and off it as compiled; the folder is the project's. */
public final class LanguageTest {
    private static final String[] FORBIDDEN = {
        "->", "::", "\\btry\\b", "\\bcatch\\b", "\\bfinally\\b", "\\bsynchronized\\b", "\\bassert\\b", "\\bpackage\\b",
        "\\binstanceof\\b", "\\bvar\\b", "\\bprotected\\b", "Exact\\(", "\\bSystem\\.(?!arraycopy)", "\\bThread\\b",
        "\\bequals\\(", "\\bhashCode\\(", "\\btoString\\(", "\\bwhile\\b", "\\.\\.\\.", "@Override", "\" \\+", "\\+ \"",
        "\\bstatic \\{"
    };
    /** Of the library, this is what the class has use for; LANGUAGE.md lists all of it. */
    private static final Set<String> LIBRARY = Set.of(
            "java/lang/Object", "java/lang/Object.<init>",
            "java/lang/Math", "java/lang/Math.max", "java/lang/Math.min", "java/lang/Math.abs",
            "java/util/ArrayList", "java/util/ArrayList.<init>", "java/util/ArrayList.add", "java/util/ArrayList.get",
            "java/util/ArrayList.size");
    private static final Pattern EXCEPTION = Pattern.compile("java/(lang/(IllegalState|IllegalArgument|IndexOutOfBounds"
            + "|Arithmetic|UnsupportedOperation)|util/NoSuchElement)Exception(\\.<init>)?");
    private static final Pattern THROW = Pattern.compile("throw new \\w+\\(\"[ -~]+\"\\);");

    public static void main(String[] args) throws IOException {
        List<String> lines = Files.readAllLines(Path.of("src/main/java/GalleonWave.java"));
        Check.due("there is a file", lines.size() > 100, true);
        int methodLines = 0;
        for (int i = 0; i < lines.size(); i++) {
            String line = lines.get(i);
            String code = line.strip().startsWith("*") || line.strip().startsWith("/") ? "" : line;
            for (String forbidden : FORBIDDEN) {
                Check.due((i + 1) + ": " + forbidden, Pattern.compile(forbidden).matcher(code).find(), false);
            }
            Check.due((i + 1) + ": signs 1 to 127", line.chars().allMatch(c -> c < 128), true);
            Check.due((i + 1) + ": import", code.startsWith("import ") && !code.startsWith("import java.util."), false);
            boolean isThrow = code.contains("throw ");
            Check.due((i + 1) + ": a written text", isThrow && !THROW.matcher(code.strip()).matches(), false);
            boolean isMethodEnd = code.equals("    }") || code.equals("        }");
            methodLines = isMethodEnd || code.isBlank() ? 0 : methodLines + 1;
            Check.due((i + 1) + ": lines of a method", methodLines <= 60, true);
        }
        checkLibrary(GalleonWave.class);
        for (Class<?> inside : GalleonWave.class.getDeclaredClasses()) {
            checkLibrary(inside);
        }
        Check.end("LanguageTest");
    }

    private static void checkLibrary(Class<?> one) throws IOException {
        for (String used : Pool.usedBy(one)) {
            boolean isOwn = used.startsWith("GalleonWave") || used.startsWith("[");
            boolean isListed = isOwn || LIBRARY.contains(used) || EXCEPTION.matcher(used).matches();
            Check.due(one.getName() + " uses " + used, isListed, true);
        }
    }
}
