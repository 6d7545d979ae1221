import java.io.IOException;
import java.nio.file.Files;
import java.nio.file.Path;
import java.util.regex.Matcher;
import java.util.regex.Pattern;

/** Those rules of LANGUAGE.md that can be seen in the text of the class. */
public final class RulesTest {
    private static final String[] BARRED = {
        "throw", "throws", "try", "catch", "finally", "synchronized", "assert", "import", "package", "protected",
        "volatile", "System", "Object", "Thread", "hashCode", "toString", "Exact", "null", "native", "var",
    };

    public static void main(String[] args) throws IOException {
        String source = Files.readString(Path.of("src/main/java/HomeRoll.java"));
        String code = source.replaceAll("(?s)/\\*.*?\\*/", "").replaceAll("//[^\n]*", "");
        for (String word : BARRED) {
            Due.is("the word " + word, Pattern.compile("\\b" + word + "\\b").matcher(code).find(), false);
        }
        Due.is("lambdas", code.contains("->") || code.contains("::"), false);
        Due.is("texts joined by +", Pattern.compile("\"\\s*\\+|\\+\\s*\"").matcher(code).find(), false);
        Due.is("classes, twelve at most", count(code, "\\bclass\\b") <= 12, true);
        Due.is("classes inside that are not static", count(code, "(?<!static) final class\\b"), 1);
        Due.is("blocks that start statics", count(code, "static\\s*\\{"), 0);
        longestMethod(code);
        Due.end("RulesTest");
    }

    private static int count(String code, String what) {
        Matcher matcher = Pattern.compile(what).matcher(code);
        int found = 0;
        while (matcher.find()) {
            found++;
        }
        return found;
    }

    /** Methods end at a brace as far in as their first line. */
    private static void longestMethod(String code) {
        String[] lines = code.split("\n");
        Pattern head = Pattern.compile("^( +)[A-Za-z].*\\(.*\\) \\{$");
        for (int i = 0; i < lines.length; i++) {
            Matcher matcher = head.matcher(lines[i]);
            boolean isMethod = matcher.matches() && !lines[i].matches(" +(if|for|while|switch|else).*");
            if (isMethod) {
                int end = i;
                while (!lines[end].equals(matcher.group(1) + "}")) {
                    end++;
                }
                Due.is("short: " + lines[i].trim(), end - i < 60, true);
                int parameters = lines[i].replaceAll("[^,]", "").length() + 1;
                Due.is("at most seven parameters: " + lines[i].trim(), parameters <= 7, true);
            }
        }
    }
}
