import java.io.IOException;
import java.nio.file.DirectoryStream;
import java.nio.file.Files;
import java.nio.file.Path;
import java.util.ArrayList;
import java.util.List;
import java.util.regex.Matcher;
import java.util.regex.Pattern;

/** The sentences that the tests of bounds quote stand in the document, and each part of it is quoted. */
public final class SentencesTest {
    private static final Path DOCUMENT = Path.of("../shared/DOC.md");
    private static final Pattern QUOTE = Pattern.compile("Due\\.sentence\\(\"((?:[^\"\\\\]|\\\\.)*)\"\\)");
    private static final int SECTIONS = 4;
    private static final int PROMISES = 24;

    public static void main(String[] args) throws IOException {
        if (!Files.exists(DOCUMENT)) {
            System.out.println("SentencesTest: there is no " + DOCUMENT + " to look into");
            return;
        }
        String document = Files.readString(DOCUMENT).replaceAll("\\s+", " ");
        List<String> quotes = quotes();
        for (String quote : quotes) {
            Due.is("stands in the document: " + quote, document.contains(quote), true);
        }
        for (int section = 2; section <= SECTIONS; section++) {
            quoted("section " + section, part(document, "==== " + section + ".", "(====|## )"), quotes);
        }
        quoted("section 1", part(document, "## Terms", "===="), quotes);
        for (int promise = 1; promise <= PROMISES; promise++) {
            quoted("promise " + promise, part(document, "## Promise " + promise + ":", "## "), quotes);
        }
        Due.end("SentencesTest");
    }

    private static List<String> quotes() throws IOException {
        List<String> quotes = new ArrayList<>();
        try (DirectoryStream<Path> files = Files.newDirectoryStream(Path.of("src/test/java"), "*BoundsTest.java")) {
            for (Path file : files) {
                Matcher matcher = QUOTE.matcher(Files.readString(file));
                while (matcher.find()) {
                    quotes.add(matcher.group(1));
                }
            }
        }
        return quotes;
    }

    /** What stands between a heading and the next one. */
    private static String part(String document, String heading, String next) {
        int start = document.indexOf(heading);
        if (start < 0) {
            return "";
        }
        return document.substring(start + heading.length()).split(next, 2)[0];
    }

    private static void quoted(String name, String part, List<String> quotes) {
        boolean isQuoted = false;
        for (String quote : quotes) {
            isQuoted |= part.contains(quote);
        }
        Due.is(name + " is quoted", isQuoted, true);
    }
}
