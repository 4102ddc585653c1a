import java.io.IOException;
import java.nio.charset.StandardCharsets;
import java.nio.file.Files;
import java.nio.file.Path;
import java.util.regex.Matcher;
import java.util.regex.Pattern;

/** Signs in the source of what the rules of the language leave out; run from the project's folder. */
public final class LanguageTest {
    private static final Path SOURCE = Path.of("src/main/java/FeeRules.java");
    private static final String[] LEFT_OUT = {
        "\\bpackage\\b", "\\bimport (?!java\\.util\\.)", "(?m)^(?!\\s*(case|default)\\b).*->", "::", "\\bfinally\\b", "\\bsynchronized\\b",
        "\\bassert\\b", "\\bprotected\\b", "\\bnative\\b", "\\bSystem\\.(?!arraycopy)", "\\bMath\\.\\w+Exact\\b",
        "\\b(Integer|Long)\\.\\w+Exact\\b", "\\b(hashCode|toString|equals)\\s*\\(\\s*(Object\\b[^)]*)?\\)\\s*\\{",
        "\"\\s*\\+", "\\+\\s*\"", "\\bstatic\\s*\\{", "\\bstatic (?!final\\b)[^(={]*[=;]",
        "\\bpublic (?!final class FeeRules)[\\w ]*\\b(class|record|enum|interface)\\b",
        "catch\\s*\\([^)]*(Null|OutOfMemory|ArrayIndex|StringIndex|ClassCast|NegativeArray|ArrayStore|StackOverflow"
            + "|Throwable|\\bError|\\bException)"};

    public static void main(String[] args) throws IOException {
        Due due = new Due("LanguageTest");
        String all = Files.readString(SOURCE, StandardCharsets.ISO_8859_1);
        due.is("signs above 127", all.replaceAll("[\\x00-\\x7f]", ""), "");
        String code = all.replaceAll("(?s)/\\*.*?\\*/", "").replaceAll("//[^\n]*", "");
        for (String each : LEFT_OUT) {
            Matcher found = Pattern.compile(each).matcher(code);
            due.is(each, found.find() ? "found: " + found.group() : "", "");
        }
        oneDoorToArrays(due, code);
        due.end();
    }

    // Where there is a class Row, every index is tested in it, so no other place may use an array.
    private static void oneDoorToArrays(Due due, String code) {
        int start = code.indexOf("class Row ");
        if (start >= 0) {
            int end = code.indexOf(" class ", start + 1);
            String others = code.substring(0, start) + code.substring(end < 0 ? code.length() : end);
            due.is("brackets outside of Row", others.indexOf('['), -1);
        }
    }
}
