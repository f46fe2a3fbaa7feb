/**
 * Writes decimal numbers by patterns, exactly, with eight ways of rounding, and reads such texts
 * back strictly: a text is taken only if it is just what would be written for a number.
 */
public final class DecimalPatterns {
    public static final int UP = 0, DOWN = 1, CEILING = 2, FLOOR = 3, HALF_UP = 4, HALF_DOWN = 5, HALF_EVEN = 6, EXACT = 7;
    public static final int REFUSED = -1, INEXACT = -2;

    private static final int FIRST_CODE = 32, LAST_CODE = 126;
    private static final int DRAFT_ROOM = 40;
    private static final int TYPED_LIMIT = 100;
    // A written text is kept whole whatever its length: even if each part of it had all 40 characters
    // of the draft for itself (MINUS 1, affixes 40, integer digits with GROUP 79, fraction 41,
    // exponent 42), it would have room.
    private static final int TEXT_ROOM = 256;
    private static final int GREATEST_SCALE = 18;
    private static final long GREATEST_SIZE = 9223372036854775807L;

    private static final int DECIMAL = 0, GROUP = 1, MINUS = 2, PERCENT = 3, EXPONENT = 4, ZERO = 5;
    private static final int SYMBOL_COUNT = 6;
    // In an affix a symbol is kept as this and its number, above every code, so that it is looked up
    // only when the affix is written.
    private static final int SYMBOL_MARK = 256;

    private final Row drafted;
    private final Row text;
    private final Symbols symbols;
    private final PatternMaker maker;
    private final Scribe scribe;
    private final Finder finder;
    private Pattern pattern;
    // The next pattern is made here and only then put in the other's place: a failed apply() must
    // not harm the pattern in force.
    private Pattern spare;
    private long foundSize;
    private int foundScale;

    public DecimalPatterns() {
        drafted = new Row(DRAFT_ROOM);
        text = new Row(TEXT_ROOM);
        symbols = new Symbols();
        scribe = new Scribe(symbols);
        finder = new Finder(symbols, scribe);
        pattern = new Pattern();
        pattern.plus.zeros = 1;
        spare = new Pattern();
        maker = new PatternMaker(spare);
    }

    public boolean draft(char c) {
        return isPlain(c) && drafted.add(c);
    }

    public void scrap() {
        drafted.clear();
    }

    public int apply() {
        int fault = maker.make(drafted, spare);
        if (fault == 0) {
            Pattern former = pattern;
            pattern = spare;
            spare = former;
            drafted.clear();
        }
        return fault;
    }

    public boolean symbol(int k, char c) {
        return symbols.change(k, c);
    }

    public boolean groupFrom(int n) {
        if (n < 1 || n > 9) {
            return false;
        }
        symbols.groupLead = n;
        return true;
    }

    public int write(long u, int s, int mode) {
        if (s < 0 || s > GREATEST_SCALE || mode < UP || mode > EXACT) {
            return REFUSED;
        }
        if (!scribe.compose(pattern, u < 0, u < 0 ? u : -u, s, mode)) {
            return INEXACT;
        }
        text.copyFrom(scribe.page);
        return text.count;
    }

    public boolean type(char c) {
        return isPlain(c) && text.count < TYPED_LIMIT && text.add(c);
    }

    public void wipe() {
        text.clear();
    }

    public int length() {
        return text.count;
    }

    public int at(int i) {
        return text.has(i) ? text.code(i) : REFUSED;
    }

    public int read() {
        if (finder.find(pattern, text, false)) {
            keepFound(finder.whole, finder.places);
            return 1;
        }
        if (finder.find(pattern, text, true)) {
            keepFound(finder.whole, finder.places);
            return -1;
        }
        keepFound(0L, 0);
        return 0;
    }

    public long size() {
        return foundSize;
    }

    public int scale() {
        return foundScale;
    }

    private void keepFound(long m, int s) {
        foundSize = m;
        foundScale = s;
    }

    private static boolean isPlain(int code) {
        return code >= FIRST_CODE && code <= LAST_CODE;
    }

    /** A list of codes with a fixed room: what does not fit is not taken. */
    private static final class Row {
        private static final int NONE = -1;
        private final int[] cells;
        int count;

        Row(int room) {
            cells = new int[Math.max(room, 0)];
        }

        boolean add(int code) {
            if (count >= cells.length) {
                return false;
            }
            cells[count] = code;
            count++;
            return true;
        }

        void clear() {
            count = 0;
        }

        boolean has(int i) {
            return i >= 0 && i < count;
        }

        int code(int i) {
            return has(i) ? cells[i] : NONE;
        }

        void copyFrom(Row other) {
            clear();
            for (int i = 0; i < other.count; i++) {
                add(other.code(i));
            }
        }

        boolean isSameAs(Row other) {
            if (count != other.count) {
                return false;
            }
            for (int i = 0; i < count; i++) {
                if (code(i) != other.code(i)) {
                    return false;
                }
            }
            return true;
        }
    }

    /** How numbers look whatever the pattern: the six symbols, and L of groupFrom. */
    private static final class Symbols {
        private final int[] codes = new int[] {'.', ',', '-', '%', 'E', '0'};
        int groupLead = 1;

        int code(int k) {
            return k >= 0 && k < SYMBOL_COUNT ? codes[k] : Row.NONE;
        }

        int digitCode(int digit) {
            return codes[ZERO] + digit;
        }

        /** The digit that the code stands for, or NONE. */
        int digitOf(int code) {
            int digit = code - codes[ZERO];
            return digit >= 0 && digit <= 9 ? digit : Row.NONE;
        }

        boolean change(int k, int code) {
            if (k < 0 || k >= SYMBOL_COUNT) {
                return false;
            }
            int former = codes[k];
            codes[k] = code;
            if (areSound()) {
                return true;
            }
            codes[k] = former;
            return false;
        }

        private boolean areSound() {
            if (!isPlain(digitCode(0)) || !isPlain(digitCode(9)) || digitOf('+') >= 0) {
                return false;
            }
            for (int k = 0; k < ZERO; k++) {
                int code = codes[k];
                if (!isPlain(code) || code == '+' || digitOf(code) >= 0 || standsBefore(k, code)) {
                    return false;
                }
            }
            return true;
        }

        private boolean standsBefore(int k, int code) {
            for (int i = 0; i < k && i < SYMBOL_COUNT; i++) {
                if (codes[i] == code) {
                    return true;
                }
            }
            return false;
        }
    }

    /** One sub of a pattern: its two affixes and what its number counts. */
    private static final class Sub {
        final Row prefix = new Row(DRAFT_ROOM);
        final Row suffix = new Row(DRAFT_ROOM);
        boolean percentMeant;
        int hashes;
        int zeros;
        int commas;
        int behindComma;
        int betweenCommas;
        int fractionPlaces;
        int fractionZeros;
        int exponentZeros;
        boolean exponentPlus;

        void clear() {
            prefix.clear();
            suffix.clear();
            percentMeant = false;
            hashes = 0;
            zeros = 0;
            commas = 0;
            behindComma = 0;
            betweenCommas = 0;
            fractionPlaces = 0;
            fractionZeros = 0;
            exponentZeros = 0;
            exponentPlus = false;
        }

        boolean hasExponent() {
            return exponentZeros > 0;
        }

        /** Whether GROUP stands before the last places digits, if there are enough to group. */
        boolean groupsBefore(int places) {
            int step = commas > 1 ? betweenCommas : behindComma;
            int beyond = places - behindComma;
            return commas > 0 && step > 0 && beyond >= 0 && beyond % step == 0;
        }
    }

    /** What apply() makes of a draft. */
    private static final class Pattern {
        final Sub plus = new Sub();
        final Sub minus = new Sub();
        boolean hasMinusSub;

        void clear() {
            plus.clear();
            minus.clear();
            hasMinusSub = false;
        }

        Sub affixesFor(boolean negative) {
            return negative && hasMinusSub ? minus : plus;
        }

        boolean needsMinus(boolean negative) {
            return negative && !hasMinusSub;
        }
    }

    /** Takes the characters of a draft one by one, up to the first that no pattern could have there. */
    private static final class PatternMaker {
        private static final int BEFORE_NUMBER = 0, IN_INTEGER = 1, AFTER_COMMA = 2, AFTER_POINT = 3, IN_FRACTION = 4;
        private static final int AFTER_E = 5, AFTER_PLUS = 6, IN_ZEROS = 7, AFTER_NUMBER = 8;
        private Pattern goal;
        private Sub sub;
        private int stage;
        private boolean quoted;
        private boolean quoteEmpty;

        PatternMaker(Pattern first) {
            goal = first;
            sub = first.plus;
        }

        /** Makes the draft's pattern and answers 0, or answers what apply() does for a draft that is none. */
        int make(Row drafted, Pattern into) {
            into.clear();
            goal = into;
            beginSub(into.plus);
            for (int i = 0; i < drafted.count; i++) {
                if (!take(drafted.code(i))) {
                    return i + 1;
                }
            }
            return numberEnded() && !quoted ? 0 : drafted.count + 1;
        }

        private void beginSub(Sub next) {
            sub = next;
            stage = BEFORE_NUMBER;
            quoted = false;
            quoteEmpty = false;
        }

        private boolean take(int c) {
            if (quoted) {
                takeQuoted(c);
                return true;
            }
            switch (c) {
                case '#':
                    return takeHash();
                case '0':
                    return takeZero();
                case ',':
                    return takeComma();
                case '.':
                    return takePoint();
                case 'E':
                    return takeE();
                case ';':
                    return takeSemicolon();
                case '+':
                    return takePlus();
                default:
                    return takeAffix(c);
            }
        }

        /** Whether the number could be over here: a suffix, a semicolon or the end may follow. */
        private boolean numberEnded() {
            return stage == IN_INTEGER || stage == IN_FRACTION || stage == IN_ZEROS || stage == AFTER_NUMBER;
        }

        private boolean takeHash() {
            if (stage == AFTER_POINT || stage == IN_FRACTION) {
                sub.fractionPlaces++;
                stage = IN_FRACTION;
                return true;
            }
            if (!inInteger() || sub.zeros > 0) {
                return false;
            }
            sub.hashes++;
            sub.behindComma++;
            stage = IN_INTEGER;
            return true;
        }

        private boolean takeZero() {
            if (inInteger()) {
                sub.zeros++;
                sub.behindComma++;
                stage = IN_INTEGER;
                return true;
            }
            if (stage == AFTER_POINT || stage == IN_FRACTION) {
                return takeFractionZero();
            }
            if (stage == AFTER_E || stage == AFTER_PLUS || stage == IN_ZEROS) {
                sub.exponentZeros++;
                stage = IN_ZEROS;
                return true;
            }
            return false;
        }

        private boolean inInteger() {
            return stage == BEFORE_NUMBER || stage == IN_INTEGER || stage == AFTER_COMMA;
        }

        private boolean takeFractionZero() {
            if (sub.fractionPlaces > sub.fractionZeros) {
                return false;
            }
            sub.fractionPlaces++;
            sub.fractionZeros++;
            stage = IN_FRACTION;
            return true;
        }

        private boolean takeComma() {
            if (stage != IN_INTEGER) {
                return false;
            }
            sub.commas++;
            sub.betweenCommas = sub.behindComma;
            sub.behindComma = 0;
            stage = AFTER_COMMA;
            return true;
        }

        private boolean takePoint() {
            if (stage != BEFORE_NUMBER && stage != IN_INTEGER) {
                return false;
            }
            stage = AFTER_POINT;
            return true;
        }

        private boolean takeE() {
            boolean mayFollow = stage == IN_INTEGER || stage == IN_FRACTION;
            if (!mayFollow || sub.zeros == 0 || sub.commas > 0) {
                return false;
            }
            stage = AFTER_E;
            return true;
        }

        private boolean takeSemicolon() {
            if (!numberEnded() || goal.hasMinusSub) {
                return false;
            }
            goal.hasMinusSub = true;
            beginSub(goal.minus);
            return true;
        }

        private boolean takePlus() {
            if (stage != AFTER_E) {
                return takeAffix('+');
            }
            sub.exponentPlus = true;
            stage = AFTER_PLUS;
            return true;
        }

        private boolean takeAffix(int c) {
            if (c >= '1' && c <= '9' || !enterAffix()) {
                return false;
            }
            if (c == '\'') {
                quoted = true;
                quoteEmpty = true;
            } else if (c == '-') {
                openAffix().add(SYMBOL_MARK + MINUS);
            } else if (c == '%') {
                openAffix().add(SYMBOL_MARK + PERCENT);
                sub.percentMeant = true;
            } else {
                openAffix().add(c);
            }
            return true;
        }

        private boolean enterAffix() {
            if (stage == BEFORE_NUMBER) {
                return true;
            }
            if (!numberEnded()) {
                return false;
            }
            stage = AFTER_NUMBER;
            return true;
        }

        private Row openAffix() {
            return stage == BEFORE_NUMBER ? sub.prefix : sub.suffix;
        }

        private void takeQuoted(int c) {
            if (c != '\'') {
                openAffix().add(c);
                quoteEmpty = false;
                return;
            }
            if (quoteEmpty) {
                openAffix().add(c);
            }
            quoted = false;
        }
    }

    /** A size as its decimal digits, each under its power of ten. */
    private static final class Amount {
        // Powers go down to 10^-18, the greatest scale; and up to 10^21, which comes of 2^63 times
        // 100 when it is rounded up at its first digit.
        private static final int LOWEST = -GREATEST_SCALE, HIGHEST = 21;
        private static final int LONG_DIGITS = 19;
        private final int[] digits = new int[HIGHEST - LOWEST + 1];

        /** The size comes as 0 or less, since the size of -2^63 is no long. */
        void fill(long negated, int s, boolean hundredfold) {
            clearBelow(HIGHEST + 1);
            int power = hundredfold ? 2 - s : -s;
            long rest = negated;
            for (int i = 0; i < LONG_DIGITS; i++) {
                put(power + i, (int) -(rest % 10));
                rest /= 10;
            }
        }

        int digit(int power) {
            return power >= LOWEST && power <= HIGHEST ? digits[power - LOWEST] : 0;
        }

        private void put(int power, int digit) {
            if (power >= LOWEST && power <= HIGHEST) {
                digits[power - LOWEST] = digit;
            }
        }

        boolean isZero() {
            return !anyBelow(HIGHEST + 1);
        }

        /** The power of the first digit that is not 0; the lowest if there is none. */
        int firstPower() {
            for (int power = HIGHEST; power > LOWEST; power--) {
                if (digit(power) != 0) {
                    return power;
                }
            }
            return LOWEST;
        }

        /** The power of the last digit that is not 0; the highest if there is none. */
        int lastPower() {
            for (int power = LOWEST; power < HIGHEST; power++) {
                if (digit(power) != 0) {
                    return power;
                }
            }
            return HIGHEST;
        }

        /** Rounds to a multiple of 10^power; false, changing nothing, if the mode forbids it. */
        boolean roundTo(int power, int mode, boolean negative) {
            if (!anyBelow(power)) {
                return true;
            }
            if (mode == EXACT) {
                return false;
            }
            boolean upward = goesUp(power, mode, negative);
            clearBelow(power);
            if (upward) {
                addOneAt(power);
            }
            return true;
        }

        private boolean goesUp(int power, int mode, boolean negative) {
            switch (mode) {
                case UP:
                    return true;
                case CEILING:
                    return !negative;
                case FLOOR:
                    return negative;
                case HALF_UP:
                    return againstHalf(power) >= 0;
                case HALF_DOWN:
                    return againstHalf(power) > 0;
                case HALF_EVEN:
                    return againstHalf(power) > 0 || againstHalf(power) == 0 && digit(power) % 2 != 0;
                default:
                    return false;
            }
        }

        /** -1, 0 or 1: what stands below 10^power is less than half of it, just half, or more. */
        private int againstHalf(int power) {
            int next = digit(power - 1);
            if (next != 5) {
                return next < 5 ? -1 : 1;
            }
            return anyBelow(power - 1) ? 1 : 0;
        }

        private boolean anyBelow(int power) {
            for (int p = LOWEST; p < power && p <= HIGHEST; p++) {
                if (digits[p - LOWEST] != 0) {
                    return true;
                }
            }
            return false;
        }

        private void clearBelow(int power) {
            for (int p = LOWEST; p < power && p <= HIGHEST; p++) {
                digits[p - LOWEST] = 0;
            }
        }

        private void addOneAt(int power) {
            for (int p = power; p <= HIGHEST; p++) {
                if (digit(p) < 9) {
                    put(p, digit(p) + 1);
                    return;
                }
                put(p, 0);
            }
        }
    }

    /** Writes numbers on a page of its own, so that a writing that fails, or a trial one, leaves the text. */
    private static final class Scribe {
        final Row page = new Row(TEXT_ROOM);
        private final Amount amount = new Amount();
        private final Symbols symbols;

        Scribe(Symbols symbols) {
            this.symbols = symbols;
        }

        /** Writes the number of this sign and size (given as 0 or less) / 10^s; false if the writing fails. */
        boolean compose(Pattern pattern, boolean negative, long negated, int s, int mode) {
            Sub form = pattern.plus;
            amount.fill(negated, s, form.percentMeant);
            if (!amount.roundTo(roundingPower(form), mode, negative)) {
                return false;
            }
            Sub affixes = pattern.affixesFor(negative);
            page.clear();
            if (pattern.needsMinus(negative)) {
                putSymbol(MINUS);
            }
            putAffix(affixes.prefix);
            int exponent = exponentFor(form);
            putDigits(form, exponent);
            if (form.hasExponent()) {
                putExponent(form, exponent);
            }
            putAffix(affixes.suffix);
            return true;
        }

        private int roundingPower(Sub form) {
            if (!form.hasExponent()) {
                return -form.fractionPlaces;
            }
            return amount.firstPower() - form.zeros - form.fractionPlaces + 1;
        }

        private int exponentFor(Sub form) {
            if (!form.hasExponent() || amount.isZero()) {
                return 0;
            }
            if (form.hashes == 0) {
                return amount.firstPower() - form.zeros + 1;
            }
            int step = form.hashes + form.zeros;
            return step > 0 ? Math.floorDiv(amount.firstPower(), step) * step : 0;
        }

        /** The integer and fraction digits of the amount / 10^exponent. */
        private void putDigits(Sub form, int exponent) {
            int whole = form.hasExponent() && form.hashes > 0 ? 1 : form.zeros;
            int behind = form.fractionZeros;
            if (!amount.isZero()) {
                whole = Math.max(whole, amount.firstPower() - exponent + 1);
                behind = Math.max(behind, exponent - amount.lastPower());
            }
            if (whole == 0 && behind == 0) {
                whole = 1;
            }
            putWhole(form, exponent, whole);
            if (behind > 0) {
                putSymbol(DECIMAL);
            }
            for (int i = 1; i <= behind; i++) {
                putDigit(amount.digit(exponent - i));
            }
        }

        private void putWhole(Sub form, int exponent, int whole) {
            boolean grouped = whole >= form.behindComma + symbols.groupLead;
            for (int left = whole - 1; left >= 0; left--) {
                putDigit(amount.digit(exponent + left));
                if (grouped && form.groupsBefore(left)) {
                    putSymbol(GROUP);
                }
            }
        }

        private void putExponent(Sub form, int exponent) {
            putSymbol(EXPONENT);
            if (exponent < 0) {
                putSymbol(MINUS);
            } else if (form.exponentPlus) {
                page.add('+');
            }
            int unsigned = Math.abs(exponent);
            int width = Math.max(form.exponentZeros, widthOf(unsigned));
            for (int place = width - 1; place >= 0; place--) {
                putDigit(digitAt(unsigned, place));
            }
        }

        private static int widthOf(int n) {
            int rest = n;
            int width = 0;
            for (int i = 0; i < 10 && rest > 0; i++) {
                rest /= 10;
                width++;
            }
            return width;
        }

        private static int digitAt(int n, int place) {
            int rest = n;
            for (int i = 0; i < place && rest > 0; i++) {
                rest /= 10;
            }
            return rest % 10;
        }

        private void putAffix(Row affix) {
            for (int i = 0; i < affix.count; i++) {
                int code = affix.code(i);
                if (code >= SYMBOL_MARK) {
                    putSymbol(code - SYMBOL_MARK);
                } else {
                    page.add(code);
                }
            }
        }

        private void putSymbol(int k) {
            page.add(symbols.code(k));
        }

        private void putDigit(int digit) {
            page.add(symbols.digitCode(digit));
        }
    }

    /**
     * Finds the number of a text. It takes the digits loosely, since at most one number can have a
     * given text and sign; whether that one really has it, writing it tells.
     */
    private static final class Finder {
        private static final int IN_WHOLE = 0, IN_FRACTION = 1, IN_EXPONENT = 2;
        // An exponent that is taken no further is far beyond every size all the same.
        private static final int FAR_EXPONENT = 1000;
        private final Symbols symbols;
        private final Scribe scribe;
        long whole;
        int places;
        private int part;
        private int zerosBehind;
        private int exponent;
        private boolean exponentNegative;

        Finder(Symbols symbols, Scribe scribe) {
            this.symbols = symbols;
            this.scribe = scribe;
        }

        /** If true, the size that was found is whole / 10^places. */
        boolean find(Pattern pattern, Row text, boolean negative) {
            return gather(pattern, text, negative)
                    && settle(pattern.plus.percentMeant)
                    && scribe.compose(pattern, negative, -whole, places, EXACT)
                    && scribe.page.isSameAs(text);
        }

        private boolean gather(Pattern pattern, Row text, boolean negative) {
            begin();
            Sub affixes = pattern.affixesFor(negative);
            int from = affixes.prefix.count + (pattern.needsMinus(negative) ? 1 : 0);
            int to = text.count - affixes.suffix.count;
            for (int i = from; i < to; i++) {
                if (!take(text.code(i))) {
                    return false;
                }
            }
            return true;
        }

        private void begin() {
            whole = 0L;
            places = 0;
            part = IN_WHOLE;
            zerosBehind = 0;
            exponent = 0;
            exponentNegative = false;
        }

        private boolean take(int code) {
            int digit = symbols.digitOf(code);
            if (digit >= 0) {
                return takeDigit(digit);
            }
            if (code == symbols.code(GROUP)) {
                return part == IN_WHOLE;
            }
            if (code == symbols.code(DECIMAL)) {
                return enter(IN_FRACTION);
            }
            if (code == symbols.code(EXPONENT)) {
                return enter(IN_EXPONENT);
            }
            if (code == symbols.code(MINUS)) {
                exponentNegative = true;
                return part == IN_EXPONENT;
            }
            return code == '+' && part == IN_EXPONENT;
        }

        private boolean enter(int next) {
            if (part >= next) {
                return false;
            }
            part = next;
            return true;
        }

        private boolean takeDigit(int digit) {
            if (part == IN_EXPONENT) {
                exponent = exponent < FAR_EXPONENT ? exponent * 10 + digit : exponent;
                return true;
            }
            if (part == IN_FRACTION) {
                places++;
            }
            if (digit == 0) {
                zerosBehind++;
                return true;
            }
            return takeZerosBehind() && append(digit);
        }

        /** Zeros join the whole only when another digit follows: at the end they are a matter of scale. */
        private boolean takeZerosBehind() {
            int zeros = whole == 0 ? 0 : zerosBehind;
            zerosBehind = 0;
            for (int i = 0; i < zeros; i++) {
                if (!append(0)) {
                    return false;
                }
            }
            return true;
        }

        private boolean append(int digit) {
            if (whole > (GREATEST_SIZE - digit) / 10) {
                return false;
            }
            whole = whole * 10 + digit;
            return true;
        }

        /** Brings what was taken to the least places; false if that is no size. */
        private boolean settle(boolean hundredfold) {
            int power = zerosBehind - places + (exponentNegative ? -exponent : exponent) - (hundredfold ? 2 : 0);
            places = 0;
            if (whole == 0) {
                return true;
            }
            if (power < 0) {
                places = -power;
                return places <= GREATEST_SCALE;
            }
            for (int i = 0; i < power; i++) {
                if (!append(0)) {
                    return false;
                }
            }
            return true;
        }
    }
}
