import java.io.IOException;
import java.nio.file.Files;
import java.nio.file.Path;
import java.util.regex.Matcher;
import java.util.regex.Pattern;

/** What of LANGUAGE.md a look at the source can tell. Runs in the project's folder. */
public final class LanguageTest {
    private static final String[] RULED_OUT = {
        "\\bthrow\\b", "\\btry\\b", "\\bcatch\\b", "\\bsynchronized\\b", "\\bassert\\b", "\\bpackage\\b", "\\bimport\\b",
        "->", "::", "\\bObject\\b", "\\bException\\b", "\\bSystem\\.(?!arraycopy\\b)", "\\bthread", "\\bprotected\\b",
        "Exact\\(", "\\bequals\\(", "\\bhashCode\\(", "\\btoString\\(", "\\bstatic\\s*\\{", "@"};
    private static final int LONGEST_METHOD = 60;

    public static void main(String[] args) throws IOException {
        String source = Files.readString(Path.of("src/main/java/GaugeBounds.java"));
        String code = source.replaceAll("(?s)/\\*.*?\\*/", "").replaceAll("//[^\n]*", "");
        for (String ruledOut : RULED_OUT) {
            Matcher found = Pattern.compile(ruledOut).matcher(code);
            Check.holds("the source has no " + ruledOut, !found.find());
        }
        Check.holds("signs 1 to 126 alone", source.chars().allMatch(c -> c > 0 && c < 127));
        Check.due("longest method above " + LONGEST_METHOD + " lines", methodsAbove(source), 0);
        Check.end("LanguageTest");
    }

    private static int methodsAbove(String source) {
        Matcher method = Pattern.compile("(?m)^( +)[\\w\\[\\] ]+\\([^)]*\\) \\{\n(?s:.*?)\n\\1\\}").matcher(source);
        int seen = 0;
        int above = 0;
        while (method.find()) {
            seen++;
            if (method.group().lines().count() > LONGEST_METHOD) {
                above++;
            }
        }
        Check.holds("methods were seen", seen > 50);
        return above;
    }
}
