/** Promise 1, and for how many calls an object is good. */
public final class NewObjectTest {
    private static final Check check = new Check();
    private static final int CALLS = 512;

    public static void main(String[] args) {
        draftIsEmpty();
        patternIsZero();
        groupsFromOne();
        textIsEmpty();
        nothingWasRead();
        ownState();
        goodForAllCalls();
        laterCallsEnd();
        check.finish();
    }

    private static void draftIsEmpty() {
        check.sentence("The draft is empty;");
        check.same("apply of a new draft", new DecimalPatterns().apply(), 1);
        check.same("room for 40", Use.drafted(new DecimalPatterns(), "0".repeat(40)), true);
    }

    private static void patternIsZero() {
        check.sentence("the pattern is 0;");
        DecimalPatterns x = new DecimalPatterns();
        check.same("0", Use.written(x, 0, 0, 7), "0");
        check.same("one digit", Use.written(x, 7, 0, 7), "7");
        check.same("no groups, no affixes", Use.written(x, 1234567, 0, 7), "1234567");
        check.same("negative", Use.written(x, -12345, 0, 7), "-12345");
        check.same("no fraction", Use.written(x, 15, 1, 7), "INEXACT");
        check.same("no fraction", Use.written(x, 15, 1, 6), "2");
        check.same("read by it", Use.found(x, "-12"), "- 12/0");
        check.same("read by it", Use.found(x, "012"), "none");
    }

    private static void groupsFromOne() {
        check.sentence("L is 1;");
        DecimalPatterns x = Use.withPattern("#,##0");
        check.same("three digits", Use.written(x, 999, 0, 7), "999");
        check.same("one digit more", Use.written(x, 1000, 0, 7), "1,000");
    }

    private static void textIsEmpty() {
        check.sentence("the text is empty;");
        DecimalPatterns x = new DecimalPatterns();
        check.same("length", x.length(), 0);
        check.same("at(0)", x.at(0), -1);
        check.same("read", x.read(), 0);
        check.same("room for 100", Use.typed(x, "1".repeat(100)), true);
    }

    private static void nothingWasRead() {
        check.sentence("nothing was read.");
        DecimalPatterns x = new DecimalPatterns();
        check.same("size", x.size(), 0);
        check.same("scale", x.scale(), 0);
    }

    private static void ownState() {
        String fresh = States.portrait(new DecimalPatterns());
        for (int state = 1; state < States.COUNT; state++) {
            DecimalPatterns used = States.make(state);
            check.same("a new object beside a used one", States.portrait(new DecimalPatterns()), fresh);
            check.same("the used one", States.portrait(used), States.portrait(States.make(state)));
        }
    }

    private static void goodForAllCalls() {
        check.sentence("An object is used for at most 512 calls after it has been made;");
        refusedToTheLast();
        patternsToTheLast();
        textsToTheLast();
    }

    private static void refusedToTheLast() {
        DecimalPatterns x = new DecimalPatterns();
        for (int i = 1; i < CALLS; i++) {
            check.same("draft as call " + i, x.draft('0'), i <= 40);
        }
        check.same("apply as call 512", x.apply(), 0);
    }

    private static void patternsToTheLast() {
        DecimalPatterns x = new DecimalPatterns();
        for (int i = 1; i < CALLS - 1; i += 2) {
            check.same("draft as call " + i, x.draft(i % 4 == 1 ? '0' : '#'), true);
            check.same("apply as call " + (i + 1), x.apply(), 0);
        }
        check.same("write as call 511", x.write(-1, 0, 7), 2);
        check.same("at as call 512", x.at(1), '1');
    }

    private static void textsToTheLast() {
        DecimalPatterns x = new DecimalPatterns();
        for (int i = 1; i < CALLS - 2; i += 3) {
            check.same("write as call " + i, x.write(-i, 0, 7), 1 + Integer.toString(i).length());
            check.same("read as call " + (i + 1), x.read(), -1);
            check.same("size as call " + (i + 2), x.size(), i);
        }
        check.same("type as call 511", x.type('5'), true);
        check.same("read as call 512", x.read(), -1);
    }

    /** What later calls answer is not asked here, only that each of them comes to an end. */
    private static void laterCallsEnd() {
        check.sentence("what later calls answer is free.");
        DecimalPatterns x = new DecimalPatterns();
        int calls = 0;
        for (int i = 0; i < 20 * CALLS; i++) {
            x.draft("#0,.E+;'-%a1".charAt(i % 12));
            x.apply();
            x.symbol(i % 8 - 1, (char) (i % 140));
            x.groupFrom(i % 12);
            x.write(Long.MIN_VALUE >> i % 64, i % 21 - 1, i % 10 - 1);
            x.type((char) (i % 140));
            x.at(x.length() - 1 + i % 3);
            x.read();
            calls += x.size() >= 0 && x.scale() >= 0 ? 10 : 0;
            if (i % 50 == 0) {
                x.scrap();
                x.wipe();
            }
        }
        check.same("all calls came to an end", calls, 200 * CALLS);
    }
}
