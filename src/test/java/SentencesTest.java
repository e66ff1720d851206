import java.io.IOException;
import java.nio.file.DirectoryStream;
import java.nio.file.Files;
import java.nio.file.Path;
import java.util.ArrayList;
import java.util.Arrays;
import java.util.List;
import java.util.regex.Matcher;
import java.util.regex.Pattern;

/**
 * That no sentence of the document is without a test: what it promises, from its first line to its last
 * promise, is quoted word by word by the tests that stand under their sentences (see Edges).
 */
public final class SentencesTest {
    private static final Pattern QUOTE = Pattern.compile("sentence\\(((?:\\s*\\+?\\s*\"[^\"]*\")+)\\)");
    private static final Pattern TEXT = Pattern.compile("\"([^\"]*)\"");
    private static final Pattern FENCED = Pattern.compile("```.*?```", Pattern.DOTALL);
    private static final Pattern SIGNATURE = Pattern.compile("(?m)^`.*?`:");
    private static final Pattern HEADING = Pattern.compile("(?m)^#.*$");
    private static final String FREE = "; what later calls answer is free.";

    private static final Check check = new Check("SentencesTest");

    public static void main(String[] args) throws IOException {
        String document = promised(Files.readString(Path.of(System.getProperty("document"))));
        boolean[] quoted = new boolean[document.length()];
        mark(document, FREE, quoted);
        for (String quote : quotes(Path.of(System.getProperty("tests")))) {
            mark(document, quote, quoted);
        }
        for (String left : left(document, quoted)) {
            check.due("without a test: " + left, true, left.chars().noneMatch(Character::isLetterOrDigit));
        }
        check.due("something is promised", true, document.length() > 1000);
        check.end();
    }

    /** The document without its headings, the face (see RulesTest) and what it does not promise. */
    private static String promised(String document) {
        String text = document.substring(0, document.indexOf("## Not promised"));
        int face = text.indexOf("## The public face");
        int terms = text.indexOf("## Terms");
        text = text.substring(0, face) + FENCED.matcher(text.substring(face, terms)).replaceAll("") + text.substring(terms);
        text = SIGNATURE.matcher(text).replaceAll("").replace("```text", "");
        return plain(HEADING.matcher(text).replaceAll(""));
    }

    private static String plain(String text) {
        return text.replace("`", "").replaceAll("\\s+", " ");
    }

    private static List<String> quotes(Path tests) throws IOException {
        List<String> quotes = new ArrayList<>();
        try (DirectoryStream<Path> files = Files.newDirectoryStream(tests, "*SentencesTest.java")) {
            files.forEach(file -> addQuotes(file, quotes));
        }
        try (DirectoryStream<Path> files = Files.newDirectoryStream(tests, "*EdgesTest.java")) {
            files.forEach(file -> addQuotes(file, quotes));
        }
        return quotes;
    }

    private static void addQuotes(Path file, List<String> quotes) {
        try {
            Matcher calls = QUOTE.matcher(Files.readString(file));
            while (calls.find()) {
                StringBuilder words = new StringBuilder();
                Matcher texts = TEXT.matcher(calls.group(1));
                while (texts.find()) {
                    words.append(texts.group(1));
                }
                quotes.add(plain(words.toString()));
            }
        } catch (IOException e) {
            throw new IllegalStateException("a test can't be read", e);
        }
    }

    private static void mark(String document, String quote, boolean[] quoted) {
        for (int at = document.indexOf(quote); at >= 0; at = document.indexOf(quote, at + 1)) {
            Arrays.fill(quoted, at, at + quote.length(), true);
        }
    }

    private static List<String> left(String document, boolean[] quoted) {
        List<String> left = new ArrayList<>();
        int from = 0;
        for (int i = 0; i <= quoted.length; i++) {
            if (i == quoted.length || quoted[i]) {
                if (from < i) {
                    left.add(document.substring(from, i));
                }
                from = i + 1;
            }
        }
        return left;
    }
}
