import java.math.BigDecimal;
import java.util.Random;

/** apply, write and read against the oracle, over made-up patterns, symbols, numbers and texts. The seed is fixed. */
public final class OracleTest {
    private static final Check check = new Check();
    private static final Random random = new Random(20261115L);
    private static final String[] ZEROS = {"0", "0", "0", "A", "u", " "};

    public static void main(String[] args) {
        for (int i = 0; i < 60000; i++) {
            compareApply(i % 3 == 0 ? anyDraft() : spoilt(pattern()));
        }
        for (int i = 0; i < 12000; i++) {
            compareWriteAndRead(pattern());
        }
        check.finish();
    }

    private static boolean chance(int percent) {
        return random.nextInt(100) < percent;
    }

    private static String pick(String characters) {
        return String.valueOf(characters.charAt(random.nextInt(characters.length())));
    }

    private static String anyDraft() {
        StringBuilder draft = new StringBuilder();
        int length = random.nextInt(10);
        for (int i = 0; i < length; i++) {
            draft.append(pick("##000,,..EE++;''-%ax 15"));
        }
        return draft.toString();
    }

    private static String pattern() {
        while (true) {
            String made = sub() + (chance(30) ? ";" + sub() : "");
            if (made.length() <= 40) {
                return made;
            }
        }
    }

    private static String sub() {
        return affix() + number() + affix();
    }

    private static String affix() {
        StringBuilder made = new StringBuilder();
        while (chance(30)) {
            made.append(chance(25) ? "''" : chance(30) ? "'" + pick("1-%a0#E;,.") + "'" : pick("-%+(a ~$e"));
        }
        return made.toString();
    }

    private static String number() {
        int most = chance(5) ? 36 : 5;
        String fraction = chance(50) ? "" : "." + "0".repeat(random.nextInt(most)) + "#".repeat(random.nextInt(4));
        fraction = fraction.equals(".") ? ".0" : fraction;
        String hashes = "#".repeat(random.nextInt(4));
        String zeros = "0".repeat(random.nextInt(most));
        if (chance(40)) {
            return hashes + "0" + zeros + fraction + "E" + (chance(40) ? "+" : "") + "0".repeat(1 + random.nextInt(3));
        }
        String integer = hashes + zeros;
        if (integer.isEmpty()) {
            return fraction.isEmpty() ? "0" : fraction;
        }
        return withCommas(integer) + fraction;
    }

    private static String withCommas(String integer) {
        int often = chance(50) ? 0 : 40;
        StringBuilder made = new StringBuilder();
        for (int i = 0; i < integer.length(); i++) {
            made.append(i > 0 && chance(often) ? "," : "").append(integer.charAt(i));
        }
        return made.toString();
    }

    private static String spoilt(String text) {
        StringBuilder made = new StringBuilder(text);
        while (chance(40)) {
            int place = random.nextInt(made.length() + 1);
            if (chance(50)) {
                made.insert(place, pick("#0,.E+;'-%a17 "));
            } else if (place < made.length()) {
                made.deleteCharAt(place);
            }
        }
        return made.length() > 40 ? made.substring(0, 40) : made.toString();
    }

    private static void compareApply(String draft) {
        check.same("apply of " + draft, Use.applied(new DecimalPatterns(), draft), Oracle.fault(draft));
    }

    private static void compareWriteAndRead(String pattern) {
        DecimalPatterns x = Use.withPattern(pattern());
        Use.applied(x, spoilt(pattern()));
        Use.applied(x, pattern());
        Use.applied(x, pattern);
        Oracle oracle = new Oracle(pattern);
        setBoth(x, oracle);
        for (int i = 0; i < 2; i++) {
            long u = number64();
            int s = chance(30) ? 0 : random.nextInt(19);
            int mode = chance(40) ? 7 : random.nextInt(8);
            BigDecimal v = BigDecimal.valueOf(u, s);
            String what = pattern + " with " + new String(oracle.symbols) + " L=" + oracle.groupLead + " of " + u + "/10^" + s + " mode " + mode;
            String want = oracle.written(u < 0, v.abs(), mode);
            check.same(what, Use.written(x, u, s, mode), want);
            if (mode == 7 && !want.equals("INEXACT") && u > 0) {
                check.same(what + ", read again", Use.foundNow(x), Oracle.name(false, Oracle.asSize(v)));
            }
            compareRead(pattern, oracle, want);
        }
    }

    private static void setBoth(DecimalPatterns x, Oracle oracle) {
        oracle.groupLead = 1 + random.nextInt(chance(50) ? 1 : 9);
        x.groupFrom(oracle.groupLead);
        if (!chance(40)) {
            return;
        }
        // EXPONENT goes first, so that the digits from A on do not meet it.
        char[] next = {':', '_', '~', '!', '^', ZEROS[random.nextInt(ZEROS.length)].charAt(0)};
        if (next[5] == 'u') {
            next[2] = 'm';
        }
        if (next[5] == ' ') {
            next[3] = '*';
        }
        for (int k : new int[] {4, 2, 3, 0, 1, 5}) {
            if (x.symbol(k, next[k])) {
                oracle.symbols[k] = next[k];
            } else {
                check.same("symbol " + k + " to " + next[k], false, true);
            }
        }
    }

    private static long number64() {
        switch (random.nextInt(8)) {
            case 0:
                return random.nextLong();
            case 1:
                return Long.MIN_VALUE >> random.nextInt(64);
            case 2:
                return Long.MAX_VALUE >> random.nextInt(64);
            case 3:
                return (random.nextInt(1999) - 999) * (long) Math.pow(10, random.nextInt(16));
            case 4:
                return (long) Math.pow(10, random.nextInt(19)) - random.nextInt(3);
            case 5:
                return random.nextInt(40001) - 20000;
            case 6:
                return 5 * (2 * random.nextInt(2000) - 1999) * (long) Math.pow(10, random.nextInt(12));
            default:
                return random.nextLong() >> random.nextInt(64);
        }
    }

    private static void compareRead(String pattern, Oracle oracle, String written) {
        DecimalPatterns x = Use.withPattern(pattern);
        x.groupFrom(oracle.groupLead);
        for (int k : new int[] {4, 2, 3, 0, 1, 5}) {
            x.symbol(k, oracle.symbols[k]);
        }
        String shuffled = written;
        for (int i = 0; i < 3; i++) {
            check.same(pattern + " reads " + shuffled, Use.found(x, shuffled), oracle.found(shuffled));
            StringBuilder next = new StringBuilder(shuffled);
            int place = random.nextInt(next.length() + 1);
            String some = new String(oracle.symbols) + "+" + (char) (oracle.symbols[5] + random.nextInt(10)) + written;
            if (chance(50) && place < next.length()) {
                next.setCharAt(place, pick(some).charAt(0));
            } else if (chance(50) && place < next.length()) {
                next.deleteCharAt(place);
            } else {
                next.insert(place, pick(some));
            }
            shuffled = next.toString();
        }
    }
}
