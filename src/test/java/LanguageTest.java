import java.io.IOException;
import java.nio.file.Files;
import java.nio.file.Path;
import java.util.List;
import java.util.regex.Pattern;

/** What of LANGUAGE.md can be read off the text of the class; the folder is that of the project. */
public final class LanguageTest {
    private static final String[] FORBIDDEN = {
        "->", "::", "\\btry\\b", "\\bcatch\\b", "\\bfinally\\b", "\\bsynchronized\\b", "\\bassert\\b", "\\bpackage\\b",
        "\\binstanceof\\b", "\\bvar\\b", "\\bprotected\\b", "Exact\\(", "\\bSystem\\.(?!arraycopy)", "\\bThread\\b",
        "\\bequals\\(", "\\bhashCode\\(", "\\btoString\\(", "\\bwhile\\b", "\\.\\.\\.", "@Override", "\" \\+", "\\+ \"",
        "\\bstatic \\{"
    };

    public static void main(String[] args) throws IOException {
        List<String> lines = Files.readAllLines(Path.of("src/main/java/GalleonWave.java"));
        Check.due("there is a file", lines.size() > 100, true);
        int methodLines = 0;
        for (int i = 0; i < lines.size(); i++) {
            String line = lines.get(i);
            String code = line.strip().startsWith("*") || line.strip().startsWith("/") ? "" : line;
            for (String forbidden : FORBIDDEN) {
                Check.due((i + 1) + ": " + forbidden, Pattern.compile(forbidden).matcher(code).find(), false);
            }
            Check.due((i + 1) + ": signs 1 to 127", line.chars().allMatch(c -> c < 128), true);
            Check.due((i + 1) + ": import", code.startsWith("import ") && !code.startsWith("import java.util."), false);
            boolean isMethodEnd = code.equals("    }") || code.equals("        }");
            methodLines = isMethodEnd || code.isBlank() ? 0 : methodLines + 1;
            Check.due((i + 1) + ": lines of a method", methodLines <= 60, true);
        }
        Check.end("LanguageTest");
    }
}
