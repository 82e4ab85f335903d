import java.io.IOException;
import java.nio.file.Files;
import java.nio.file.Path;
import java.util.List;
import java.util.regex.Matcher;
import java.util.regex.Pattern;

/** Those rules of LANGUAGE.md that can be seen in the text of the program. */
public final class LanguageTest {
    private static final String[] FORBIDDEN = {
        "\\b(throw|throws|try|catch|finally|synchronized|assert|package|volatile|native)\\b",
        "->", "::", "\\b(Thread|Random|System\\.(?!arraycopy)|Object|Math\\.\\w+Exact)\\b",
        "\\.(hashCode|toString|getClass)\\(", "static\\s*\\{", "\\bprotected\\b",
        "\\bstatic (?!final|boolean \\w+\\(|int \\w+\\()",
    };

    public static void main(String[] args) throws IOException {
        List<String> lines = Files.readAllLines(Path.of("src/main/java/SteppedCache.java"));
        int methodStart = 0;
        for (int n = 0; n < lines.size(); n++) {
            String line = lines.get(n);
            if (line.strip().startsWith("*") || line.strip().startsWith("/*") || line.strip().startsWith("//")) {
                continue;
            }
            for (String pattern : FORBIDDEN) {
                Matcher found = Pattern.compile(pattern).matcher(line);
                Check.no("line " + (n + 1) + " has " + pattern, found.find());
            }
            if (line.startsWith("import ")) {
                Check.yes(line, line.matches("import java\\.util\\.(Arrays|ArrayList|List);"));
            }
            if (line.matches(" {4,8}[a-zA-Z].*\\) \\{")) {
                methodStart = n;
            }
            if (line.matches(" {4,8}\\}")) {
                Check.yes("the method of line " + (methodStart + 1) + " is short", n - methodStart <= 60);
                methodStart = n;
            }
        }
        Check.end();
    }
}
