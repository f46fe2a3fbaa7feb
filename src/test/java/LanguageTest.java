import java.io.IOException;
import java.nio.file.Files;
import java.nio.file.Path;
import java.util.regex.Matcher;
import java.util.regex.Pattern;

/** Rules of LANGUAGE.md that the source shows by single words; FaceTest has those that the class shows. */
public final class LanguageTest {
    private static final Path SOURCE = Path.of("src", "main", "java", "DecimalPatterns.java");
    private static final int LONGEST_METHOD = 60, MOST_CLASSES = 12, MOST_PARAMETERS = 7;
    private static final String[] RULED_OUT = {"\\bimport\\b", "\\bpackage\\b", "\\bthrow\\b", "\\bthrows\\b", "\\btry\\b", "\\bcatch\\b",
        "\\bsynchronized\\b", "\\bassert\\b", "->", "::", "\\bstatic\\s*\\{", "\\bprotected\\b", "Exact\\s*\\(", "\\bhashCode\\b", "\\btoString\\b",
        "\\bSystem\\.(?!arraycopy\\b)", "\\bThread\\b", "\\bRandom\\b", "\\bMath\\.random\\b", "\\bnative\\b", "\\bvolatile\\b", "\\btransient\\b"};
    private static final Pattern METHOD = Pattern.compile("(?m)^( +)(?=\\S)(?:[\\w\\[\\]]+ )*\\w+\\(([^;{}]*)\\) \\{\\R((?:.*\\R)*?)\\1\\}");
    private static final Check check = new Check();

    public static void main(String[] args) throws IOException {
        String code = Files.readString(SOURCE).replaceAll("(?s)/\\*.*?\\*/", " ").replaceAll("//.*", " ").replaceAll("'(\\\\?.)'|\"[^\"]*\"", "0");
        for (String word : RULED_OUT) {
            check.same("in the source: " + word, Pattern.compile(word).matcher(code).find(), false);
        }
        check.same("at most some twelve classes", count(code, "\\bclass\\b") <= MOST_CLASSES, true);
        check.same("public classes", count(code, "public (final )?class"), 1);
        checkMethods(code);
        check.finish();
    }

    private static void checkMethods(String code) {
        Matcher method = METHOD.matcher(code);
        int found = 0;
        while (method.find()) {
            found++;
            String where = method.group().strip().lines().findFirst().orElse("");
            check.same(where + " is short", method.group(3).lines().count() <= LONGEST_METHOD, true);
            check.same(where + " has few parameters", method.group(2).split(",").length <= MOST_PARAMETERS, true);
        }
        check.same("the methods of the face are among those found", found > 14, true);
    }

    private static int count(String code, String word) {
        return (int) Pattern.compile(word).matcher(code).results().count();
    }
}
