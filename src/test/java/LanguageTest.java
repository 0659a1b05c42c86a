import java.io.IOException;
import java.nio.file.Files;
import java.nio.file.Path;
import java.util.List;
import java.util.regex.Pattern;

/** Words that LANGUAGE.md rules out do not stand in the class (rules 2, 3, 4, 5, 6, 12 and 13). */
public final class LanguageTest {
    private static final Path SOURCE = Path.of("src/main/java/GardenRules.java");
    private static final List<String> RULED_OUT = List.of("\\bthrow\\b", "\\bthrows\\b", "\\btry\\b", "\\bcatch\\b",
        "\\bsynchronized\\b", "\\bassert\\b", "->", "::", "\\bpackage\\b", "Exact\\b", "\\bObject\\b", "\\bThread\\b",
        "System\\.(?!arraycopy\\b)", "\\bRandom\\b", "\\bequals\\b", "\\bhashCode\\b", "\\btoString\\b",
        "import (?!java\\.util\\.(Arrays|ArrayList|List);)", "\\bstatic \\{", "\\bprotected\\b");

    public static void main(String[] args) throws IOException {
        Due d = new Due();
        String code = withoutComments(Files.readString(SOURCE));
        for (String word : RULED_OUT) {
            d.due("places of " + word, Pattern.compile(word).matcher(code).results().count(), 0);
        }
        int longest = code.lines().mapToInt(String::length).max().orElse(0);
        d.due("lines beyond 120, of " + longest, code.lines().filter(line -> line.length() > 120).count(), 0);
        d.end();
    }

    private static String withoutComments(String code) {
        return code.replaceAll("(?s)/\\*.*?\\*/", "").replaceAll("//[^\n]*", "");
    }
}
