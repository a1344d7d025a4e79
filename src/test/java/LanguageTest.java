import java.io.IOException;
import java.nio.file.Files;
import java.nio.file.Path;
import java.util.regex.Matcher;
import java.util.regex.Pattern;

/** Rules of LANGUAGE.md that a look at the source can tell. */
public final class LanguageTest {
    private static final String[] FORBIDDEN = {
        "\\bthrows?\\b", "\\btry\\b", "\\bcatch\\b", "\\bsynchronized\\b", "\\bassert\\b", "\\bimport\\b",
        "\\bpackage\\b", "->", "::", "\\bstatic\\s*\\{", "\\bprotected\\b", "Exact\\(", "\\bnew\\s+\\w+\\([^()]*\\)\\s*\\{",
    };
    private static final String FACE_NAMES =
        "branch|change|call|fresh|logged|make|drop|told|row|differs|run|accept|reached|never|fewest|chosen|register|count";

    public static void main(String[] args) throws IOException {
        String source = Files.readString(Path.of("src/main/java/TestsFromUse.java"));
        String code = source.replaceAll("(?s)/\\*.*?\\*/", "").replaceAll("//[^\n]*", "");
        for (String forbidden : FORBIDDEN) {
            Check.due("uses of " + forbidden, matches(forbidden, code), 0);
        }
        Check.due("public classes", matches("\\bpublic\\s+(final\\s+)?class\\b", code), 1);
        Check.due("classes inside that are not static", matches("(?m)^ +(private )?(final )?class\\b", code), 0);
        Check.due("static fields that are not final", matches("\\bstatic\\s+(?!final)\\w+(\\[\\])?\\s+\\w+\\s*[=;]", code), 0);
        Check.due("other methods with a name of the face",
            matches("(?m)^ +(?!public|return)(\\w+ )+(" + FACE_NAMES + ")\\([^;]*\\{$", code), 0);
        Check.due("methods with more than seven parameters", matches("\\((int \\w+, ){7}", code), 0);
        Check.end();
    }

    private static int matches(String pattern, String text) {
        Matcher matcher = Pattern.compile(pattern).matcher(text);
        int many = 0;
        while (matcher.find()) {
            many++;
        }
        return many;
    }
}
