/** What the document's terms say of rounding: the eight modes, between multiples, on them and midway. */
public final class RoundingTest {
    private static final Check check = new Check();
    private static final long MAX = Long.MAX_VALUE, MIN = Long.MIN_VALUE;
    private static final int UP = 0, DOWN = 1, CEILING = 2, FLOOR = 3, HALF_UP = 4, HALF_DOWN = 5, HALF_EVEN = 6, EXACT = 7;

    public static void main(String[] args) {
        multiplesStay();
        up();
        down();
        ceiling();
        floor();
        nearer();
        equallyNear();
        exact();
        signStays();
        inAllModes();
        check.finish();
    }

    private static void writes(String pattern, long u, int s, int mode, String want) {
        DecimalPatterns x = Use.withPattern(pattern);
        check.same(pattern + " of " + u + " / 10^" + s + " in mode " + mode, Use.written(x, u, s, mode), want);
    }

    private static void multiplesStay() {
        check.sentence("It is ROUNDED to a multiple of a power of ten, 10^k: if it is none, to one of the two next to it.");
        for (int mode = UP; mode <= EXACT; mode++) {
            writes("0", 0, 0, mode, "0");
            writes("0", 0, 18, mode, "0");
            writes("0", 10, 1, mode, "1");
            writes("0", -50, 1, mode, "-5");
            writes("0.0", -15, 1, mode, "-1.5");
            writes("0", 3000000000000000000L, 18, mode, "3");
            writes("0.##", 7, 0, mode, "7");
            writes("0", MAX, 0, mode, "9223372036854775807");
            writes("0", MIN, 0, mode, "-9223372036854775808");
            writes("0." + "#".repeat(18), MIN, 18, mode, "-9.223372036854775808");
            writes("0." + "#".repeat(17), MAX, 17, mode, "92.23372036854775807");
            writes("0E0", 5000, 0, mode, "5E3");
            writes("0.0E0", -15, 18, mode, "-1.5E-17");
            writes("0%", 25, 2, mode, "25%");
            writes("0%", 250, 3, mode, "25%");
        }
    }

    private static void up() {
        check.sentence("Modes: 0 UP that with the greater size,");
        writes("0", 11, 1, UP, "2");
        writes("0", -11, 1, UP, "-2");
        writes("0", 1, 18, UP, "1");
        writes("0", -1, 18, UP, "-1");
        writes("0", 2000000000000000001L, 18, UP, "3");
        writes("0.0", 9991, 3, UP, "10.0");
        writes("0", MAX, 1, UP, "922337203685477581");
        writes("0", MIN, 18, UP, "-10");
        writes("0E0", 9000000000000000001L, 0, UP, "1E19");
        writes("0E0%", MIN, 0, UP, "-1E21%");
    }

    private static void down() {
        check.sentence("1 DOWN the other,");
        writes("0", 19, 1, DOWN, "1");
        writes("0", -19, 1, DOWN, "-1");
        writes("0", 999999999999999999L, 18, DOWN, "0");
        writes("0", -2999999999999999999L, 18, DOWN, "-2");
        writes("0.0", 9999, 3, DOWN, "9.9");
        writes("0E0", 9999999999999999L, 0, DOWN, "9E15");
        writes("0E0", 19, 18, DOWN, "1E-17");
    }

    private static void ceiling() {
        check.sentence("2 CEILING the greater one by the sign (UP for +, DOWN for -),");
        writes("0", 11, 1, CEILING, "2");
        writes("0", -19, 1, CEILING, "-1");
        writes("0", 1, 18, CEILING, "1");
        writes("0", -1, 18, CEILING, "-0");
        writes("0E0", 91, 0, CEILING, "1E2");
        writes("0E0", -99, 0, CEILING, "-9E1");
    }

    private static void floor() {
        check.sentence("3 FLOOR the lesser one by the sign,");
        writes("0", 19, 1, FLOOR, "1");
        writes("0", -11, 1, FLOOR, "-2");
        writes("0", 1, 18, FLOOR, "0");
        writes("0", -1, 18, FLOOR, "-1");
        writes("0E0", 99, 0, FLOOR, "9E1");
        writes("0E0", -91, 0, FLOOR, "-1E2");
    }

    private static void nearer() {
        check.sentence("4, 5, 6 HALF the nearer one,");
        for (int mode = HALF_UP; mode <= HALF_EVEN; mode++) {
            writes("0", 14, 1, mode, "1");
            writes("0", 16, 1, mode, "2");
            writes("0", -24, 1, mode, "-2");
            writes("0", -26, 1, mode, "-3");
            writes("0", 1499999999999999999L, 18, mode, "1");
            writes("0", 1500000000000000001L, 18, mode, "2");
            writes("0", -2499999999999999999L, 18, mode, "-2");
            writes("0", -2500000000000000001L, 18, mode, "-3");
            writes("0", 499999999999999999L, 18, mode, "0");
            writes("0", 500000000000000001L, 18, mode, "1");
            writes("0", 49, 2, mode, "0");
            writes("0", 96, 1, mode, "10");
            writes("0.0", 9951, 3, mode, "10.0");
            writes("0E0", 949, 0, mode, "9E2");
            writes("0E0", 951, 0, mode, "1E3");
            writes("0E0", 1500000000000000001L, 18, mode, "2E0");
        }
    }

    private static void equallyNear() {
        check.sentence("and if both are equally near 4 UP, 5 DOWN, 6 the one that is an even multiple,");
        midway("0", 5, 1, "1", "0", "0");
        midway("0", 15, 1, "2", "1", "2");
        midway("0", 25, 1, "3", "2", "2");
        midway("0", 95, 1, "10", "9", "10");
        midway("0", 500000000000000000L, 18, "1", "0", "0");
        midway("0", 1500000000000000000L, 18, "2", "1", "2");
        midway("0.0", 25, 2, "0.3", "0.2", "0.2");
        midway("0.0", 105, 2, "1.1", "1.0", "1.0");
        midway("0.0", 995, 2, "10.0", "9.9", "10.0");
        midway("0E0", 85, 0, "9E1", "8E1", "8E1");
        midway("0E0", 95, 0, "1E2", "9E1", "1E2");
        midway("0.0E0", 1050, 0, "1.1E3", "1.0E3", "1.0E3");
        midway("0%", 15, 3, "2%", "1%", "2%");
        midway("0%", 25, 3, "3%", "2%", "2%");
    }

    private static void midway(String pattern, long u, int s, String halfUp, String halfDown, String halfEven) {
        writes(pattern, u, s, HALF_UP, halfUp);
        writes(pattern, u, s, HALF_DOWN, halfDown);
        writes(pattern, u, s, HALF_EVEN, halfEven);
        writes(pattern, -u, s, HALF_UP, "-" + halfUp);
        writes(pattern, -u, s, HALF_DOWN, "-" + halfDown);
        writes(pattern, -u, s, HALF_EVEN, "-" + halfEven);
    }

    private static void exact() {
        check.sentence("7 EXACT: the writing fails then.");
        writes("0", 11, 1, EXACT, "INEXACT");
        writes("0", -5, 1, EXACT, "INEXACT");
        writes("0", 1, 18, EXACT, "INEXACT");
        writes("0." + "0".repeat(17), 1, 18, EXACT, "INEXACT");
        writes("0." + "0".repeat(18), 1, 18, EXACT, "0.000000000000000001");
        writes("0", 1000000000000000001L, 18, EXACT, "INEXACT");
        writes("0E0", 11, 0, EXACT, "INEXACT");
        writes("0.0E0", MAX, 0, EXACT, "INEXACT");
        writes("0%", 1, 3, EXACT, "INEXACT");
        writes("0%", 1, 2, EXACT, "1%");
        writes("0;0.0", -11, 1, EXACT, "INEXACT");
    }

    private static void signStays() {
        check.sentence("The sign stays, also if 0 comes of it.");
        for (int mode : new int[] {DOWN, CEILING, HALF_UP, HALF_DOWN, HALF_EVEN}) {
            writes("0", -4, 1, mode, "-0");
            writes("#.#", -4, 2, mode, "-0");
            writes("#.0", -1, 18, mode, "-.0");
            writes("0;(0)", -4, 1, mode, "(0)");
            writes("0%;(0)", -4, 3, mode, "(0)");
        }
        writes("0", 4, 1, FLOOR, "0");
        writes("0;(0)", 4, 1, FLOOR, "0");
        writes("0;(0)", 0, 0, FLOOR, "0");
    }

    /** One row for each number: what comes of it in the eight modes. */
    private static void inAllModes() {
        row("0", 55, 1, "6", "5", "6", "5", "6", "5", "6", "INEXACT");
        row("0", -55, 1, "-6", "-5", "-5", "-6", "-6", "-5", "-6", "INEXACT");
        row("0", -5, 1, "-1", "-0", "-0", "-1", "-1", "-0", "-0", "INEXACT");
        row("0.0", 9995, 3, "10.0", "9.9", "10.0", "9.9", "10.0", "10.0", "10.0", "INEXACT");
        row("0", MAX, 18, "10", "9", "10", "9", "9", "9", "9", "INEXACT");
        row("0E0", -85, 1, "-9E0", "-8E0", "-8E0", "-9E0", "-9E0", "-8E0", "-8E0", "INEXACT");
        row("#0.0E0", 99951, 2, "10.0E2", "9.9E2", "10.0E2", "9.9E2", "10.0E2", "10.0E2", "10.0E2", "INEXACT");
        row("0E0%", MIN, 0, "-1E21%", "-9E20%", "-9E20%", "-1E21%", "-9E20%", "-9E20%", "-9E20%", "INEXACT");
    }

    private static void row(String pattern, long u, int s, String... wants) {
        for (int mode = UP; mode <= EXACT; mode++) {
            writes(pattern, u, s, mode, wants[mode]);
        }
    }
}
