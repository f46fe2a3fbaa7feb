import java.math.BigDecimal;
import java.util.HashMap;
import java.util.Map;

/**
 * Reading as the document defines it: all numbers that can have a short text are written EXACT, and
 * then every short text is read: it is taken if, and only if, it was among those written.
 */
public final class ReadingByDefinitionTest {
    private static final Check check = new Check();
    private static final String ALPHABET = "0159.,-%E+";
    private static final int LONGEST = 4;
    private static final String[] PATTERNS = {"0", "#", "00", "0.0", "#.#", ".#", "0.0#", "#,#", "#,##0", "0,0", "0%", "#.#%", "-0", "0-",
        "0;0", "0;'1'0", "#;'5'0'0'", "'1'0;0'0'", "'.'0;0'.'", "0;%0", "'1'#.#;#", "0E0", "#0E0", "0E+0", "00E0", "0.#E0", "##0E00", "0E0%",
        "0E0;0'1'", "'E'0E0"};

    public static void main(String[] args) {
        for (String pattern : PATTERNS) {
            Map<String, String> due = numbersOf(pattern);
            check.same(pattern + " has numbers", due.isEmpty(), false);
            compareAll(pattern, due, "");
        }
        check.finish();
    }

    /** Short texts have few digits: up to LONGEST where there is no exponent, up to two where there is one. */
    private static Map<String, String> numbersOf(String pattern) {
        Oracle oracle = new Oracle(pattern);
        boolean exponent = pattern.replaceAll("'[^']*'", "").contains("E");
        Map<String, String> due = new HashMap<>();
        for (boolean negative : new boolean[] {true, false}) {
            int greatest = exponent ? 99 : 9999;
            for (int m = 0; m <= greatest; m++) {
                for (int power = exponent ? -40 : -6; power <= (exponent ? 40 : 4); power++) {
                    BigDecimal size = Oracle.asSize(BigDecimal.valueOf(m, -power));
                    String text = size == null ? "INEXACT" : oracle.written(negative, size, 7);
                    if (text.length() <= LONGEST) {
                        due.put(text, Oracle.name(negative, size));
                    }
                }
            }
        }
        return due;
    }

    private static void compareAll(String pattern, Map<String, String> due, String beginning) {
        DecimalPatterns x = Use.withPattern(pattern);
        for (int i = 0; i < ALPHABET.length(); i++) {
            String text = beginning + ALPHABET.charAt(i);
            check.same(pattern + " reads " + text, Use.found(x, text), due.getOrDefault(text, "none"));
            if (text.length() < LONGEST) {
                compareAll(pattern, due, text);
            }
        }
    }
}
