import java.io.IOException;
import java.nio.charset.StandardCharsets;
import java.nio.file.Files;
import java.nio.file.Path;
import java.util.regex.Matcher;
import java.util.regex.Pattern;

/** Those rules of LANGUAGE.md that can be seen in the source; started from the project's root. */
public final class LanguageTest {
    private static final String[] RULED_OUT = {
        "->", "::", "\\bcatch\\b", "\\btry\\b", "\\bfinally\\b", "\\bsynchronized\\b", "\\bassert\\b",
        "\\w+Exact\\b", "\\bdouble\\b", "\\bfloat\\b", "\\bObject\\b", "\\bvar\\b", "\\bpackage\\b",
        "\\bprotected\\b", "\\bequals\\b", "\\bhashCode\\b", "\\btoString\\b", "\\bSystem\\.(?!arraycopy)",
        "\"\\s*\\+", "\\+\\s*\"", "\\bstatic\\s*\\{", "\\bimport (?!java\\.util\\.(Arrays|NoSuchElementException);)",
        "\\bthrow (?!new NoSuchElementException\\(\\);)", "[^\\x01-\\x7f]"};

    public static void main(String[] args) throws IOException {
        Check check = new Check();
        String source = Files.readString(Path.of("src/main/java/SeriesTables.java"), StandardCharsets.ISO_8859_1);
        String code = source.replaceAll("(?s)/\\*.*?\\*/", "").replaceAll("//[^\n]*", "");
        for (String pattern : RULED_OUT) {
            Matcher matcher = Pattern.compile(pattern).matcher(code);
            int found = 0;
            while (matcher.find()) {
                found++;
            }
            check.same("in the source: " + pattern, found, 0);
        }
        check.same("more than twelve classes", code.split("\\bclass\\b").length - 1 > 12, false);
        lengthsOfMethods(check, code);
        check.finish();
    }

    private static void lengthsOfMethods(Check check, String code) {
        Matcher head = Pattern.compile("(?m)^( ++)(?:[\\w\\[\\]]+ )*(\\w+)\\(([^)]*)\\)[^;{]*\\{$").matcher(code);
        int methods = 0;
        while (head.find()) {
            // The brace that closes a method stands as far in as its head does.
            int close = code.indexOf("\n" + head.group(1) + "}", head.end());
            long lines = code.substring(head.start(), close).lines().count();
            check.same(head.group(2) + " has more than sixty lines", lines > 60, false);
            check.same(head.group(2) + " has more than seven parameters", head.group(3).split(",").length > 7, false);
            methods++;
        }
        check.same("methods were found", methods > 60, true);
    }
}
