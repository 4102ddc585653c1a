import java.io.IOException;
import java.nio.charset.StandardCharsets;
import java.nio.file.Files;
import java.nio.file.Path;
import java.util.ArrayList;
import java.util.List;
import java.util.Map;
import java.util.TreeMap;
import java.util.regex.Matcher;
import java.util.regex.Pattern;

/**
 * Each sentence that a test names (by due.of) stands in the document, in the part that it names; and each word of
 * the parts "What it is", "The public face", "Terms" and "Promise 1" to "Promise 18" is in a sentence that a test
 * names. Run from the project's folder.
 */
public final class DocumentTest {
    private static final Path DOCUMENT = Path.of("../shared/DOC.md");
    private static final String TESTS = "src/test/java";
    private static final Pattern NAMED =
        Pattern.compile("due\\.of\\(\"([^\"]*)\",\\s*(\"[^\"]*\"(?:\\s*\\+\\s*\"[^\"]*\")*)\\)");
    // It says what the class is for; what follows it says all of that again, to be tested there.
    private static final String TITLE = "Fees of houses by rules told as texts: editions that act from days and are"
        + " known from days, facts that are told late, lines with steps and caps, open ones with what they lack, months"
        + " with caps, reliefs, shares of flats, bills that are issued as differences, printed lines.";

    public static void main(String[] args) throws IOException {
        Due due = new Due("DocumentTest");
        Map<String, String> parts = parts();
        due.is("parts of the document to be tested", parts.size(), 21);
        Map<String, List<String>> named = named();
        namedOnesStand(due, parts, named);
        allAreNamed(due, parts, named);
        due.end();
    }

    /** The texts of the parts to be tested, each in one line; of the promises, without their declarations. */
    private static Map<String, String> parts() throws IOException {
        Map<String, String> parts = new TreeMap<>();
        String document = Files.readString(DOCUMENT, StandardCharsets.UTF_8);
        for (String part : document.split("(?m)^## ")) {
            Matcher head = Pattern.compile("(What it is|The public face|Terms|Promise [0-9]+)[^\n]*\n").matcher(part);
            if (head.lookingAt()) {
                String text = part.substring(head.end()).replace("```java", "").replace("```", "");
                parts.put(head.group(1), plain(text.replaceAll("`[^`]*`:", "")));
            }
        }
        return parts;
    }

    private static String plain(String text) {
        return text.replaceAll("\\s+", " ").trim();
    }

    private static Map<String, List<String>> named() throws IOException {
        Map<String, List<String>> named = new TreeMap<>();
        try (var files = Files.newDirectoryStream(Path.of(TESTS), "*Test.java")) {
            for (Path file : files) {
                Matcher found = NAMED.matcher(Files.readString(file, StandardCharsets.UTF_8));
                while (found.find()) {
                    String words = found.group(2).replaceAll("\"\\s*\\+\\s*\"", "").replace("\"", "");
                    named.computeIfAbsent(found.group(1), part -> new ArrayList<>()).add(words);
                }
            }
        }
        named.computeIfAbsent("What it is", part -> new ArrayList<>()).add(TITLE);
        return named;
    }

    private static void namedOnesStand(Due due, Map<String, String> parts, Map<String, List<String>> named) {
        for (Map.Entry<String, List<String>> each : named.entrySet()) {
            String text = parts.getOrDefault(each.getKey(), "");
            for (String words : each.getValue()) {
                due.is("[" + words + "] stands in " + each.getKey(), text.contains(words), true);
            }
        }
    }

    private static void allAreNamed(Due due, Map<String, String> parts, Map<String, List<String>> named) {
        for (Map.Entry<String, String> part : parts.entrySet()) {
            StringBuilder left = new StringBuilder(part.getValue());
            for (String words : named.getOrDefault(part.getKey(), List.of())) {
                blank(part.getValue(), words, left);
            }
            String unnamed = plain(left.toString().replaceAll("[^A-Za-z0-9]+", " "));
            due.is("words of " + part.getKey() + " that no test names", unnamed, "");
        }
    }

    private static void blank(String text, String words, StringBuilder left) {
        for (int at = text.indexOf(words); at >= 0 && !words.isEmpty(); at = text.indexOf(words, at + 1)) {
            left.replace(at, at + words.length(), " ".repeat(words.length()));
        }
    }
}
