import java.math.BigDecimal;
import java.math.MathContext;
import java.math.RoundingMode;
import java.util.regex.Matcher;
import java.util.regex.Pattern;

/** The document's terms said once more, over regular expressions and BigDecimal. */
final class Oracle {
    private static final String AFFIX = "(?:[^#0-9,.E;']|'[^']*')*";
    private static final String INTEGER = "#(?:,?#)*(?:,?0)*|0(?:,?0)*";
    private static final String FRACTION = "0+#*|#+";
    private static final String NUMBER = "(?:#*0+(?:\\.(?:" + FRACTION + "))?E\\+?0+|(?:" + INTEGER + ")(?:\\.(?:" + FRACTION
            + "))?|\\.(?:" + FRACTION + "))";
    private static final Pattern PATTERN = Pattern.compile(
            "(" + AFFIX + ")(" + NUMBER + ")(" + AFFIX + ")(?:;(" + AFFIX + ")" + NUMBER + "(" + AFFIX + "))?");
    private static final Pattern PARTS = Pattern.compile("([#0,]*)(?:\\.([#0]*))?(?:E(\\+?)(0+))?");
    private static final BigDecimal GREATEST = BigDecimal.valueOf(Long.MAX_VALUE);

    final char[] symbols = {'.', ',', '-', '%', 'E', '0'};
    int groupLead = 1;
    private final String[] affixes = new String[4];
    private final boolean twoSubs;
    private final boolean percent;
    private final String integer;
    private final String fraction;
    private final boolean exponentPlus;
    private final int exponentZeros;

    Oracle(String pattern) {
        Matcher subs = PATTERN.matcher(pattern);
        if (!subs.matches()) {
            throw new IllegalArgumentException(pattern);
        }
        twoSubs = subs.group(4) != null;
        affixes[0] = subs.group(1);
        affixes[1] = subs.group(3);
        affixes[2] = twoSubs ? subs.group(4) : "-" + affixes[0];
        affixes[3] = twoSubs ? subs.group(5) : affixes[1];
        percent = (affixes[0] + affixes[1]).replaceAll("'[^']*'", "").contains("%");
        Matcher parts = PARTS.matcher(subs.group(2));
        if (!parts.matches()) {
            throw new IllegalArgumentException(subs.group(2));
        }
        integer = parts.group(1);
        fraction = parts.group(2) == null ? "" : parts.group(2);
        exponentPlus = "+".equals(parts.group(3));
        exponentZeros = parts.group(4) == null ? 0 : parts.group(4).length();
    }

    /** What apply() answers for this draft. */
    static int fault(String draft) {
        if (PATTERN.matcher(draft).matches()) {
            return 0;
        }
        for (int place = 1; place <= draft.length(); place++) {
            if (!canGoOn(draft.substring(0, place))) {
                return place;
            }
        }
        return draft.length() + 1;
    }

    /** If any pattern begins so, then one of these endings makes one. */
    private static boolean canGoOn(String beginning) {
        for (String ending : new String[] {"", "0", "'", "'0"}) {
            if (PATTERN.matcher(beginning + ending).matches()) {
                return true;
            }
        }
        return false;
    }

    private static int count(String text, char c) {
        return (int) text.chars().filter(code -> code == c).count();
    }

    private String affix(int which) {
        StringBuilder out = new StringBuilder();
        Matcher pieces = Pattern.compile("'([^']*)'|(.)").matcher(affixes[which]);
        while (pieces.find()) {
            if (pieces.group(1) != null) {
                out.append(pieces.group(1).isEmpty() ? "'" : pieces.group(1));
            } else {
                char c = pieces.group(2).charAt(0);
                out.append(c == '-' ? symbols[2] : c == '%' ? symbols[3] : c);
            }
        }
        return out.toString();
    }

    private String inDigits(String ascii) {
        StringBuilder out = new StringBuilder();
        for (char c : ascii.toCharArray()) {
            out.append((char) (symbols[5] + (c - '0')));
        }
        return out.toString();
    }

    private static RoundingMode rounding(int mode) {
        RoundingMode[] modes = {RoundingMode.UP, RoundingMode.DOWN, RoundingMode.CEILING, RoundingMode.FLOOR,
            RoundingMode.HALF_UP, RoundingMode.HALF_DOWN, RoundingMode.HALF_EVEN, RoundingMode.UNNECESSARY};
        return modes[mode];
    }

    /** The text, or INEXACT. */
    String written(boolean negative, BigDecimal size, int mode) {
        BigDecimal signed = negative ? size.negate() : size;
        BigDecimal w = percent ? signed.scaleByPowerOfTen(2) : signed;
        String number;
        try {
            number = exponentZeros > 0 ? scientific(w, rounding(mode)) : plain(w, rounding(mode));
        } catch (ArithmeticException unnecessaryRounding) {
            return "INEXACT";
        }
        return affix(negative ? 2 : 0) + number + affix(negative ? 3 : 1);
    }

    private String plain(BigDecimal w, RoundingMode rounding) {
        BigDecimal r = w.setScale(fraction.length(), rounding).abs();
        return digits(r, count(integer, '0'), integer.contains(","));
    }

    private String scientific(BigDecimal w, RoundingMode rounding) {
        int hashes = count(integer, '#');
        int zeros = count(integer, '0');
        int e = 0;
        BigDecimal r = BigDecimal.ZERO;
        if (w.signum() != 0) {
            r = w.round(new MathContext(zeros + fraction.length(), rounding)).abs();
            int q = r.precision() - r.scale() - 1;
            e = hashes == 0 ? q - zeros + 1 : Math.floorDiv(q, hashes + zeros) * (hashes + zeros);
        }
        String ofExponent = Integer.toString(Math.abs(e));
        String sign = e < 0 ? String.valueOf(symbols[2]) : exponentPlus ? "+" : "";
        String padding = "0".repeat(Math.max(0, exponentZeros - ofExponent.length()));
        return digits(r.scaleByPowerOfTen(-e), hashes == 0 ? zeros : 1, false) + symbols[4] + sign + inDigits(padding + ofExponent);
    }

    private String digits(BigDecimal r, int leastWhole, boolean grouped) {
        String[] halves = (r.toPlainString() + ".").split("\\.", -1);
        String whole = halves[0].replaceAll("^0+", "");
        whole = "0".repeat(Math.max(0, leastWhole - whole.length())) + whole;
        String behind = halves[1].replaceAll("0+$", "");
        behind += "0".repeat(Math.max(0, count(fraction, '0') - behind.length()));
        if (whole.isEmpty() && behind.isEmpty()) {
            whole = "0";
        }
        whole = inDigits(whole);
        if (grouped) {
            whole = group(whole);
        }
        return behind.isEmpty() ? whole : whole + symbols[0] + inDigits(behind);
    }

    private String group(String whole) {
        String[] runs = integer.split(",");
        int last = runs[runs.length - 1].length();
        int more = runs.length > 2 ? runs[runs.length - 2].length() : last;
        if (whole.length() < last + groupLead) {
            return whole;
        }
        String head = whole.substring(0, whole.length() - last);
        String tail = whole.substring(whole.length() - last);
        while (head.length() > more) {
            tail = head.substring(head.length() - more) + symbols[1] + tail;
            head = head.substring(0, head.length() - more);
        }
        return head + symbols[1] + tail;
    }

    /** What reading the text finds, in the form of Use.found. */
    String found(String text) {
        for (int sign = 0; sign < 2; sign++) {
            String prefix = affix(sign * 2);
            String suffix = affix(sign * 2 + 1);
            if (text.length() > prefix.length() + suffix.length() && text.startsWith(prefix) && text.endsWith(suffix)) {
                BigDecimal size = sizeOf(text.substring(prefix.length(), text.length() - suffix.length()));
                if (size != null && written(sign == 1, size, 7).equals(text)) {
                    return name(sign == 1, size);
                }
            }
        }
        return "none";
    }

    /** A size with the least scale, or null where it is none. */
    static BigDecimal asSize(BigDecimal value) {
        BigDecimal least = value.signum() == 0 ? BigDecimal.ZERO : value.stripTrailingZeros();
        least = least.scale() < 0 ? least.setScale(0) : least;
        boolean fits = least.scale() <= 18 && least.movePointRight(least.scale()).compareTo(GREATEST) <= 0;
        return fits ? least : null;
    }

    static String name(boolean negative, BigDecimal size) {
        return (negative ? "- " : "+ ") + size.unscaledValue() + "/" + size.scale();
    }

    private BigDecimal sizeOf(String number) {
        StringBuilder ascii = new StringBuilder();
        for (char c : number.toCharArray()) {
            if (c >= symbols[5] && c <= symbols[5] + 9) {
                ascii.append((char) ('0' + c - symbols[5]));
            } else if (c == symbols[0]) {
                ascii.append('.');
            } else if (c == symbols[2]) {
                ascii.append('-');
            } else if (c == symbols[4]) {
                ascii.append('e');
            } else if (c == '+') {
                ascii.append('+');
            } else if (c != symbols[1]) {
                return null;
            }
        }
        if (!ascii.toString().matches("(?=[.]?[0-9])[0-9]*([.][0-9]+)?(e[-+]?0*[0-9]{1,3})?")) {
            return null;
        }
        return asSize(new BigDecimal(ascii.toString()).scaleByPowerOfTen(percent ? -2 : 0));
    }
}
