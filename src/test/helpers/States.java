import java.util.function.ToLongFunction;

/**
 * Objects in several states, to show that a call changes nothing: of two that were made alike, one
 * gets the call, and then both must look the same in everything that can be seen of them.
 */
final class States {
    static final int NEW = 0, BUSY = 1, FULL = 2, MOVED = 3, COUNT = 4;
    private static final int HALF_EVEN = 6, EXACT = 7;

    private States() {
    }

    static DecimalPatterns make(int state) {
        switch (state) {
            case BUSY:
                return busy();
            case FULL:
                return full();
            case MOVED:
                return moved();
            default:
                return new DecimalPatterns();
        }
    }

    /** Two subs in force, a negative number found, a draft that is no pattern yet. */
    private static DecimalPatterns busy() {
        DecimalPatterns x = Use.withPattern("<#,##0.0#%>;[0]");
        x.groupFrom(2);
        x.symbol(1, '_');
        x.write(-12345, 3, EXACT);
        x.read();
        Use.drafted(x, "a00.0#E+");
        return x;
    }

    /** A draft of 40, a text of 100. */
    private static DecimalPatterns full() {
        DecimalPatterns x = Use.withPattern("0E0");
        Use.drafted(x, "0".repeat(40));
        Use.typed(x, "7".repeat(100));
        return x;
    }

    /** Every symbol is another, the greatest L, a number with a scale found, the draft a pattern. */
    private static DecimalPatterns moved() {
        DecimalPatterns x = Use.withPattern("-#,##0.0");
        x.symbol(0, ';');
        x.symbol(1, ' ');
        x.symbol(2, '~');
        x.symbol(3, '!');
        x.symbol(4, '^');
        x.symbol(5, 'a');
        x.groupFrom(9);
        x.write(12345, 1, EXACT);
        x.read();
        Use.drafted(x, ".00#;(0)");
        return x;
    }

    /** The call answers this, and changes nothing, in an object of this state. */
    static void changesNothing(Check check, String what, int state, ToLongFunction<DecimalPatterns> call, long want) {
        DecimalPatterns tried = make(state);
        check.same(what + " in state " + state, call.applyAsLong(tried), want);
        check.same("all after " + what + " in state " + state, portrait(tried), portrait(make(state)));
    }

    static void changesNothing(Check check, String what, ToLongFunction<DecimalPatterns> call, long want) {
        for (int state = 0; state < COUNT; state++) {
            changesNothing(check, what, state, call, want);
        }
    }

    /** All that can be seen of an object: what was found, the text, the pattern, the draft, the symbols, L. */
    static String portrait(DecimalPatterns x) {
        StringBuilder seen = new StringBuilder();
        seen.append(x.size()).append('/').append(x.scale());
        seen.append(" text ").append(Use.text(x)).append(" read ").append(Use.foundNow(x));
        seen.append(" pattern ").append(somethingWritten(x));
        seen.append(" draft ").append(x.apply()).append(' ').append(somethingWritten(x));
        // A draft that is no pattern yet becomes one by a 0, so that what it holds is seen.
        seen.append(' ').append(x.draft('0')).append(' ').append(x.apply()).append(' ').append(somethingWritten(x));
        Use.applied(x, "-%0,0.0");
        seen.append(" symbols ").append(Use.written(x, -1234567890, 0, EXACT));
        for (long u = 1; u < 2_000_000_000L; u *= 10) {
            seen.append(' ').append(x.write(u, 2, EXACT));
        }
        Use.applied(x, "0E0");
        return seen.append(' ').append(Use.written(x, 1, 1, EXACT)).toString();
    }

    private static String somethingWritten(DecimalPatterns x) {
        return Use.written(x, -12345678, 3, HALF_EVEN) + " " + Use.written(x, 7, 0, HALF_EVEN);
    }
}
