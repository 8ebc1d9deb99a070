import java.io.IOException;
import java.nio.file.Files;
import java.nio.file.Path;
import java.util.regex.Matcher;
import java.util.regex.Pattern;

/** Those rules of ../shared/LANGUAGE.md that the program's text shows by itself. */
public final class LanguageTest {
    private static final String[] FORBIDDEN = {
        "throw", "throws", "try", "catch", "synchronized", "assert", "protected", "volatile", "native", "Exact",
        "System\\.(?!arraycopy)", "->", "::", "static\\s*\\{", "hashCode", "toString", "while\\s*\\(true\\)", "for\\s*\\(;"};

    public static void main(String[] args) throws IOException {
        Checks checks = new Checks();
        String source = Files.readString(Path.of("src/main/java/StatePuzzles.java"));
        String code = source.replaceAll("(?s)/\\*.*?\\*/", "").replaceAll("//[^\n]*", "");
        for (String word : FORBIDDEN) {
            String whole = Character.isLetter(word.charAt(0)) ? "\\b" + word : word;
            checks.due("places with " + word, count(code, whole), 0);
        }
        checks.due("imports", count(code, "(?m)^import "), count(code, "(?m)^import java\\.util\\.Arrays;"));
        checks.due("public members and the class", count(code, "\\bpublic\\b"), 13);
        checks.due("static fields that are not final", count(code, "\\bstatic (?!final|class)[\\w\\[\\]]+ \\w+( =|;)"), 0);
        checks.holds("at most twelve classes", count(code, "\\b(class|interface|enum|record) \\w+") <= 12);
        checks.end();
    }

    private static int count(String text, String pattern) {
        Matcher matcher = Pattern.compile(pattern).matcher(text);
        int found = 0;
        while (matcher.find()) {
            found++;
        }
        return found;
    }
}
