import java.io.IOException;
import java.nio.charset.StandardCharsets;
import java.nio.file.Files;
import java.nio.file.Path;
import java.util.regex.Matcher;
import java.util.regex.Pattern;

/** Signs in the source of what the rules of the language leave out; run from the project's folder. */
public final class LanguageTest {
    private static final Path SOURCE = Path.of("src/main/java/FeeRules.java");
    // The document asks for no exception at all, so neither a throw nor a catch can be right.
    private static final String[] LEFT_OUT = {
        "\\bpackage\\b", "\\bimport\\b", "->", "::", "\\bthrows?\\b", "\\btry\\b", "\\bcatch\\b", "\\bfinally\\b",
        "\\bsynchronized\\b", "\\bassert\\b", "\\binstanceof\\b", "\\bvar\\b", "\\bprotected\\b", "\\bnative\\b",
        "\\bjava\\.", "\\bSystem\\.(?!arraycopy)", "\\bMath\\.\\w+Exact\\b", "\\b(Long|Integer)\\.[A-Z]",
        "\\b(equals|hashCode|toString)\\s*\\(", "\"\\s*\\+", "\\+\\s*\"", "\\bstatic\\s*\\{",
        "\\bstatic (?!final\\b)[^(={]*[=;]", "\\bpublic (?!final class FeeRules|static final int NONE)\\w+ class\\b"};

    public static void main(String[] args) throws IOException {
        Due due = new Due("LanguageTest");
        String all = Files.readString(SOURCE, StandardCharsets.ISO_8859_1);
        for (int i = 0; i < all.length(); i++) {
            char sign = all.charAt(i);
            due.is("sign " + i + " is plain", sign == '\n' || sign >= 32 && sign < 127, true);
        }
        String code = all.replaceAll("(?s)/\\*.*?\\*/", "").replaceAll("//[^\n]*", "");
        for (String each : LEFT_OUT) {
            Matcher found = Pattern.compile(each).matcher(code);
            due.is(each, found.find() ? "found: " + found.group() : "", "");
        }
        oneDoorToArrays(due, code);
        due.end();
    }

    // Every index is tested in the class Row, so no other place may use an array.
    private static void oneDoorToArrays(Due due, String code) {
        int start = code.indexOf("class Row");
        int end = code.indexOf("class Houses");
        due.is("Row stands before Houses", start >= 0 && start < end, true);
        String others = code.substring(0, Math.max(0, start)) + code.substring(Math.max(0, end));
        due.is("brackets outside of Row", others.indexOf('['), -1);
    }
}
