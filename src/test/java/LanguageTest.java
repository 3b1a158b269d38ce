import java.io.IOException;
import java.nio.charset.StandardCharsets;
import java.nio.file.Files;
import java.nio.file.Path;
import java.util.List;
import java.util.regex.Pattern;

/** The rules of LANGUAGE.md that can be read off the source's text. Its argument is the source file. */
public final class LanguageTest {
    private static final List<String> FORBIDDEN = List.of(
        "\\bthrow\\b", "\\bthrows\\b", "\\btry\\b", "\\bcatch\\b", "\\bsynchronized\\b", "\\bassert\\b", "->", "::",
        "\\bvar\\b", "\\bimport\\b", "\\bpackage\\b", "\\bprotected\\b", "\\bnull\\b", "\\bObject\\b", "\\bSystem\\b",
        "\\bThread\\b", "\\brandom\\b", "Exact\\b", "\\bstatic \\{", "\\[\\]\\[\\]", "\\bfloat\\b", "\\bdouble\\b",
        "\\b(equals|hashCode|toString)\\(");

    public static void main(String[] args) throws IOException {
        Path path = Path.of(args.length > 0 ? args[0] : "src/main/java/MatchBureau.java");
        String source = Files.readString(path, StandardCharsets.UTF_8);
        String code = source.replaceAll("(?s)/\\*.*?\\*/", "").replaceAll("//[^\n]*", "");
        for (String pattern : FORBIDDEN) {
            Check.due("the source has " + pattern, Pattern.compile(pattern).matcher(code).find() ? 1 : 0, 0);
        }
        Check.due("signs that are not ASCII", source.chars().filter(c -> c > 126).count(), 0);
        Check.due("public types", Pattern.compile("public [a-z ]*class").matcher(code).results().count(), 1);
        methodsAreShort(code);
        Check.finish("LanguageTest");
    }

    private static void methodsAreShort(String code) {
        String[] lines = code.split("\n");
        int start = -1;
        String indent = "";
        for (int i = 0; i < lines.length; i++) {
            if (start < 0 && lines[i].matches(" {4,8}\\S.*\\) \\{") && !lines[i].contains("class ")) {
                start = i;
                indent = lines[i].replaceAll("\\S.*", "");
            } else if (start >= 0 && lines[i].equals(indent + "}")) {
                Check.due(lines[start].trim() + " is short", i - start < 60 ? 1 : 0, 1);
                start = -1;
            }
        }
        Check.due("every method ends", start, -1);
    }
}
