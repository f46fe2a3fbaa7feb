import java.io.IOException;
import java.nio.file.Files;
import java.nio.file.Path;
import java.util.ArrayList;
import java.util.List;
import java.util.regex.Matcher;
import java.util.regex.Pattern;
import java.util.stream.Stream;

/**
 * Every sentence of the document's 'What it is', 'Terms' and promises is the heading of a test
 * (Check.sentence), and every such heading stands in the document word for word. FaceTest has 'The
 * public face'; 'Not promised' leaves nothing to test.
 */
public final class EverySentenceTest {
    private static final Path DOCUMENT = Path.of("..", "shared", "DOC.md");
    private static final Path TESTS = Path.of("src", "test", "java");
    private static final Pattern QUOTE = Pattern.compile("check\\.sentence\\(\"((?:[^\"\\\\]|\\\\.)*)\"\\)");
    private static final Pattern WITH_TESTS = Pattern.compile("What it is|Terms|Promise \\d+: .*");
    private static final int SECTIONS_WITH_TESTS = 16;
    private static final Pattern SECTION = Pattern.compile("(?m)^## (.*)\\R((?:(?!## ).*\\R?)*)");
    // How a promise names its method, and the marks of a printed block.
    private static final Pattern NO_SENTENCE = Pattern.compile("`[^`\\n]*`:|```\\w*");
    private static final Check check = new Check();

    public static void main(String[] args) throws IOException {
        if (!Files.isReadable(DOCUMENT)) {
            System.out.println(DOCUMENT + " is not here: nothing to compare the headings with");
            return;
        }
        String document = Files.readString(DOCUMENT);
        List<String> quotes = quotes();
        for (String quote : quotes) {
            check.same("in the document: " + quote, plain(document).contains(quote), true);
        }
        int sections = 0;
        Matcher section = SECTION.matcher(document);
        while (section.find()) {
            if (WITH_TESTS.matcher(section.group(1)).matches()) {
                sections++;
                check.same("without a test under " + section.group(1), unquoted(plain(section.group(2)), quotes), "");
            }
        }
        check.same("sections with tests", sections, SECTIONS_WITH_TESTS);
        check.finish();
    }

    private static List<String> quotes() throws IOException {
        List<String> quotes = new ArrayList<>();
        try (Stream<Path> files = Files.list(TESTS)) {
            for (Path file : files.sorted().toList()) {
                Matcher quote = QUOTE.matcher(Files.readString(file));
                while (quote.find()) {
                    quotes.add(quote.group(1));
                }
            }
        }
        // The longest first, so that none is taken apart by another that is a piece of it.
        quotes.sort((a, b) -> b.length() - a.length());
        return quotes;
    }

    private static String plain(String text) {
        return NO_SENTENCE.matcher(text).replaceAll(" ").replaceAll("\\s+", " ").trim();
    }

    private static String unquoted(String text, List<String> quotes) {
        String rest = text;
        for (String quote : quotes) {
            rest = rest.replace(quote, "");
        }
        return rest.trim();
    }
}
