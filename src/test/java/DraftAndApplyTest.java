/** Promises 1 to 4: a new object, draft, scrap, apply. */
public final class DraftAndApplyTest {
    private static final Check check = new Check();

    public static void main(String[] args) {
        newObject();
        draft();
        scrap();
        applyFaults();
        applyTakes();
        applyFailedChangesNothing();
        applyAgainAndAgain();
        check.finish();
    }

    private static void newObject() {
        check.same("new: the draft is empty", new DecimalPatterns().apply(), 1);
        DecimalPatterns x = new DecimalPatterns();
        check.same("new: length", x.length(), 0);
        check.same("new: at(0)", x.at(0), -1);
        check.same("new: size", x.size(), 0);
        check.same("new: scale", x.scale(), 0);
        check.same("new: the pattern is 0", Use.written(x, 0, 0, 7), "0");
        check.same("new: the pattern is 0", Use.written(x, -12345, 0, 7), "-12345");
        check.same("new: the pattern is 0", Use.written(x, 15, 1, 6), "2");
        Use.applied(x, "#,0");
        check.same("new: L is 1", Use.written(x, 12, 0, 7), "1,2");
        Use.applied(x, "-%'%' 0.0E0");
        check.same("new: the symbols", Use.written(x, -1, 5, 7), "--%% 1.0E-3");
    }

    private static void draft() {
        DecimalPatterns x = new DecimalPatterns();
        for (int c : new int[] {0, 9, 31, 127, 128, 160, 255, 256 + '0', 0xFFFF}) {
            check.same("draft " + c, x.draft((char) c), false);
        }
        check.same("draft of wrong codes adds nothing", x.apply(), 1);
        for (char c = 32; c <= 126; c++) {
            check.same("draft " + (int) c, new DecimalPatterns().draft(c), true);
        }
        check.same("40 characters", Use.drafted(x, "' ~" + "a".repeat(37)), true);
        check.same("a 41st", x.draft('\''), false);
        check.same("the 41st was not added", x.apply(), 41);
        x.scrap();
        check.same("40 again", Use.drafted(x, "0".repeat(40)), true);
        check.same("apply of 40", x.apply(), 0);
        check.same("apply emptied the draft", Use.drafted(x, "#".repeat(40)), true);
    }

    private static void scrap() {
        DecimalPatterns x = new DecimalPatterns();
        x.scrap();
        Use.drafted(x, "0#");
        x.scrap();
        check.same("apply after scrap", x.apply(), 1);
        Use.drafted(x, "00");
        x.scrap();
        check.same("scrap leaves the pattern", Use.written(x, 1, 0, 7), "1");
        Use.drafted(x, "0".repeat(40));
        x.scrap();
        check.same("scrap makes room", x.draft('0'), true);
    }

    private static void fault(String draft, int want) {
        DecimalPatterns x = new DecimalPatterns();
        check.same("apply of " + draft, Use.applied(x, draft), want);
        check.same("the draft " + draft + " stays", x.apply(), want);
    }

    private static void applyFaults() {
        fault("", 1);
        fault("a", 2);
        fault("'", 2);
        fault("''", 3);
        fault("'0", 3);
        fault("0'", 3);
        fault("0''''x'y", 9);
        fault(".", 2);
        fault("0.", 3);
        fault("0.a", 3);
        fault("0..0", 3);
        fault("0.0.0", 4);
        fault(".0E0", 3);
        fault("..", 2);
        fault("#.E0", 3);
        fault("0#", 2);
        fault("0,#", 3);
        fault(",0", 1);
        fault("a,0", 2);
        fault("0,", 3);
        fault("0,,0", 3);
        fault("0,a", 3);
        fault("0,;", 3);
        fault("0,'a'", 3);
        fault("0.0,0", 4);
        fault("0.#0", 4);
        fault("0.0#0", 5);
        fault("E0", 1);
        fault("#E0", 2);
        fault("##.00E0", 6);
        fault("#,0E0", 4);
        fault("0,E0", 3);
        fault("0E", 3);
        fault("0E+", 4);
        fault("0E++0", 4);
        fault("0E-0", 3);
        fault("0E;0", 3);
        fault("0E'0'", 3);
        fault("0E0#", 4);
        fault("0E0.0", 4);
        fault("0E0,0", 4);
        fault("0E0E0", 4);
        fault("0aE0", 3);
        fault("0E+a", 4);
        fault("0a0", 3);
        fault("0a#", 3);
        fault("0a.0", 3);
        fault("0a,0", 3);
        fault(";0", 1);
        fault("a;0", 2);
        fault("0;", 3);
        fault("0;a", 4);
        fault("0;;0", 3);
        fault("0;0;", 4);
        fault("0;0a;0", 5);
        fault("0;0#", 4);
        fault("0;#E0", 4);
        fault("0;0,0E0", 6);
        fault("0;.0E0", 5);
        fault("0;'a", 5);
        fault("00;(", 5);
        for (char c = '1'; c <= '9'; c++) {
            fault(c + "0", 1);
            fault("0" + c, 2);
            fault("0E" + c, 3);
            fault("0;0a" + c, 5);
        }
        fault("a".repeat(40), 41);
        fault("0" + ",0".repeat(19) + ",", 41);
    }

    private static void applyTakes() {
        String[] patterns = {"#", "0", "##", "#0", "#,#", "0,0", "#,#,0,0", ".0", ".#", ".0#", "#.0#", "0E0", "#0.#E+000", "00.0E0",
            "a0", "0a", "'1'0'2'", "''0''", "'a''b'0", "+0+", "0E0+", "0E+0+", "0;0", "-0;0-", "0E0;#,##0.#", "#.#;0E+0", "'E;#,.'0;';'0",
            " 0 ", "~0~", "%0", "0;0%", "e0e", "0/:<=>?@!\"$&()*"};
        for (String pattern : patterns) {
            DecimalPatterns x = new DecimalPatterns();
            check.same("apply of " + pattern, Use.applied(x, pattern), 0);
            check.same("the draft is empty after " + pattern, x.apply(), 1);
        }
    }

    private static void applyFailedChangesNothing() {
        DecimalPatterns x = Use.withPattern("<#,##0.0%>;[0]");
        x.write(-12, 1, 7);
        for (String draft : new String[] {"", "00;(", "a00.00b;c0d;", "0E0#", "'"}) {
            check.same("a failed apply of " + draft, Use.applied(x, draft) != 0, true);
            check.same("the text after " + draft, Use.text(x), "[120.0]");
            check.same("the pattern after " + draft, Use.written(x, 12345, 1, 7), "<123,450.0%>");
            check.same("the pattern after " + draft, Use.written(x, -12, 1, 7), "[120.0]");
        }
        Use.applied(x, "0");
        check.same("the next pattern has nothing of the former", Use.written(x, -12345, 1, 0), "-1235");
        check.same("L and symbols outlive apply", x.groupFrom(3) && x.symbol(1, '_') && Use.applied(x, "0,0") == 0, true);
        check.same("L outlives apply", Use.written(x, 123, 0, 7), "123");
        check.same("symbols outlive apply", Use.written(x, 1234, 0, 7), "1_2_3_4");
        check.same("apply leaves the text", Use.applied(x, "#") == 0 && Use.text(x).equals("1_2_3_4"), true);
    }

    /** Each pattern follows every other on one object, also with one between them: nothing of the former stays. */
    private static void applyAgainAndAgain() {
        String[] patterns = {"#,##,#", "a%#00.0#E+000b", "0.###E0", "-.0##;'x'0'y'", "#,0"};
        String[] wants = {"-1,23,4", "-a%123.4E+003b", "-1.234E3", "x1234.0y", "-1,2,3,4"};
        for (int former = 0; former < patterns.length; former++) {
            for (int next = 0; next < patterns.length; next++) {
                DecimalPatterns x = Use.withPattern(patterns[former]);
                Use.applied(x, patterns[next]);
                check.same(patterns[next] + " after " + patterns[former], Use.written(x, -1234, 0, 7), wants[next]);
                Use.applied(x, patterns[former] + ";;");
                Use.applied(x, "0");
                Use.applied(x, patterns[next]);
                check.same(patterns[next] + " soon after " + patterns[former], Use.written(x, -1234, 0, 7), wants[next]);
                check.same(patterns[next] + " after a fault", Use.applied(x, patterns[former] + ";;") > 0, true);
                Use.applied(x, patterns[next]);
                check.same(patterns[next] + " after a fault", Use.written(x, -1234, 0, 7), wants[next]);
            }
        }
    }
}
