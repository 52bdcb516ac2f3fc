import java.io.IOException;
import java.nio.file.Files;
import java.nio.file.Path;
import java.util.Set;
import java.util.regex.Matcher;
import java.util.regex.Pattern;

/** What of LANGUAGE.md a look at the source can tell. Runs in the project's folder. */
public final class LanguageTest {
    private static final String[] RULED_OUT = {
        "\\bthrow\\b", "\\btry\\b", "\\bcatch\\b", "\\bsynchronized\\b", "\\bassert\\b", "\\bpackage\\b", "\\bimport\\b",
        "->", "::", "\\bObject\\b", "\\bException\\b", "\\bSystem\\.(?!arraycopy\\b)", "\\bthread", "\\bprotected\\b",
        "Exact\\(", "\\bequals\\(", "\\bhashCode\\(", "\\btoString\\(", "\\bstatic\\s*\\{", "@"};
    private static final int LONGEST_METHOD = 60;
    /** What stands ahead of a dot with a great letter: the library that is used, and classes inside. */
    private static final Set<String> NAMED = Set.of("Math.max", "Math.min", "System.arraycopy", "Curve.WHOLE", "Curve.POINTS",
        "Curve.MOST_VOLTS", "Bands.SIGNS", "Bands.TENTHS");

    public static void main(String[] args) throws IOException {
        String source = Files.readString(Path.of("src/main/java/GaugeBounds.java"));
        String code = source.replaceAll("(?s)/\\*.*?\\*/", "").replaceAll("//[^\n]*", "");
        for (String ruledOut : RULED_OUT) {
            Matcher found = Pattern.compile(ruledOut).matcher(code);
            Check.holds("the source has no " + ruledOut, !found.find());
        }
        Check.holds("signs 1 to 126 alone", source.chars().allMatch(c -> c > 0 && c < 127));
        Check.due("longest method above " + LONGEST_METHOD + " lines", methodsAbove(source), 0);
        libraryThatIsListed(code);
        objectsInConstructorsAlone(code);
        Check.end("LanguageTest");
    }

    private static void libraryThatIsListed(String code) {
        Matcher named = Pattern.compile("\\b[A-Z]\\w*\\.\\w+").matcher(code);
        while (named.find()) {
            Check.holds("it may be used: " + named.group(), NAMED.contains(named.group()));
        }
    }

    /** As all calls of a run share one room, no call makes anything; the constructors make it all. */
    private static void objectsInConstructorsAlone(String code) {
        String constructor = "(?m)^( +)(?:public )?[A-Z]\\w*\\(\\) \\{\n(?s:.*?)\n\\1\\}";
        Matcher made = Pattern.compile("\\bnew\\b|\\.clone\\(|\\bcopyOf").matcher(code.replaceAll(constructor, ""));
        Check.holds("nothing is made but in constructors", !made.find());
        Check.holds("constructors were seen", !code.replaceAll(constructor, "").equals(code));
    }

    private static int methodsAbove(String source) {
        Matcher method = Pattern.compile("(?m)^( +)[\\w\\[\\] ]+\\([^)]*\\) \\{\n(?s:.*?)\n\\1\\}").matcher(source);
        int seen = 0;
        int above = 0;
        while (method.find()) {
            seen++;
            if (method.group().lines().count() > LONGEST_METHOD) {
                above++;
            }
        }
        Check.holds("methods were seen", seen > 50);
        return above;
    }
}
