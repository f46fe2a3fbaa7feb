/** Promises 8 to 11: type, wipe, length, at. */
public final class TextTest {
    private static final Check check = new Check();
    private static final int EXACT = 7;

    public static void main(String[] args) {
        typeAdds();
        typeRefusesCodes();
        typeRefusesWhenFull();
        wipe();
        length();
        at();
        atRefuses();
        check.finish();
    }

    private static void typeAdds() {
        check.sentence("Adds a character to the text;");
        DecimalPatterns x = new DecimalPatterns();
        for (int c = 32; c <= 126; c++) {
            check.same("type " + c, x.type((char) c), true);
            check.same("its place", x.at(c - 32), c);
            check.same("one more", x.length(), c - 31);
        }
        x = Use.withPattern("0;(0");
        x.write(-12, 0, EXACT);
        check.same("behind what was written", x.type('3'), true);
        check.same("behind what was written", Use.text(x), "(123");
        check.same("read with it", Use.foundNow(x), "- 123/0");
    }

    private static void typeRefusesCodes() {
        check.sentence("false, changing nothing, when c is not 32 .. 126");
        for (int c : new int[] {0, 9, 10, 13, 31, 127, 128, 160, 255, 256 + '1', 0x7FFF, 0x8000 + '1', 0xFFFF}) {
            States.changesNothing(check, "type " + c, x -> x.type((char) c) ? 1 : 0, 0);
        }
        for (int c = 0; c <= 0xFFFF; c++) {
            check.same("type " + c, new DecimalPatterns().type((char) c), c >= 32 && c <= 126);
        }
    }

    private static void typeRefusesWhenFull() {
        check.sentence("or the text has 100 or more.");
        DecimalPatterns x = new DecimalPatterns();
        check.same("99", Use.typed(x, "a".repeat(99)), true);
        check.same("the 100th", x.type('b'), true);
        check.same("the 101st", x.type('c'), false);
        check.same("it was not added", x.length(), 100);
        check.same("the last is the 100th", x.at(99), 'b');
        for (char c : new char[] {' ', '0', '7', '~'}) {
            States.changesNothing(check, "type " + c, States.FULL, y -> y.type(c) ? 1 : 0, 0);
        }
        x = Use.withPattern("0".repeat(38) + ",0");
        check.same("a written text of 77", x.write(1, 0, EXACT), 77);
        check.same("23 more", Use.typed(x, "1".repeat(23)), true);
        check.same("and no more", x.type('1'), false);
        check.same("100 in all", x.length(), 100);
        check.same("write makes room", x.write(1, 0, EXACT), 77);
        check.same("room again", x.type('1'), true);
    }

    private static void wipe() {
        check.sentence("Makes the text empty.");
        DecimalPatterns x = new DecimalPatterns();
        x.wipe();
        check.same("wipe of nothing", x.length(), 0);
        Use.typed(x, "7".repeat(100));
        x.wipe();
        check.same("length", x.length(), 0);
        check.same("at(0)", x.at(0), -1);
        check.same("at(99)", x.at(99), -1);
        check.same("an empty text is no number's", Use.foundNow(x), "none");
        check.same("room for 100 again", Use.typed(x, "8".repeat(100)), true);
        x.wipe();
        Use.typed(x, "4");
        check.same("only what came later", Use.foundNow(x), "+ 4/0");
        x.wipe();
        check.same("what was found stays", x.size(), 4);
        x.write(-12, 0, EXACT);
        x.wipe();
        check.same("of what was written", x.length(), 0);
        DecimalPatterns busy = States.make(States.BUSY);
        busy.wipe();
        check.same("the draft stays", busy.apply(), 9);
        check.same("the pattern stays", Use.written(busy, -12345, 3, EXACT), "[1234.5]");
    }

    private static void length() {
        check.sentence("How many characters the text has.");
        DecimalPatterns x = Use.withPattern("ab0");
        check.same("none", x.length(), 0);
        x.write(-7, 0, EXACT);
        check.same("written", x.length(), 4);
        x.write(7, 0, EXACT);
        check.same("written anew", x.length(), 3);
        x.type(' ');
        check.same("typed", x.length(), 4);
        x.type((char) 127);
        check.same("not typed", x.length(), 4);
        check.same("full", Use.typed(x, " ".repeat(96)) ? x.length() : 0, 100);
        x.wipe();
        check.same("wiped", x.length(), 0);
        for (int state = 0; state < States.COUNT; state++) {
            States.changesNothing(check, "length", state, y -> y.length(), Use.text(States.make(state)).length());
        }
    }

    private static void at() {
        check.sentence("The code of character i (from 0) of the text;");
        DecimalPatterns x = Use.withPattern("'~'a 0");
        x.write(-7, 0, EXACT);
        int[] codes = {'-', 126, 'a', 32, '7'};
        for (int i = 0; i < codes.length; i++) {
            check.same("at(" + i + ")", x.at(i), codes[i]);
        }
        States.changesNothing(check, "at(99)", States.FULL, y -> y.at(99), '7');
        States.changesNothing(check, "at(0)", States.BUSY, y -> y.at(0), '[');
    }

    private static void atRefuses() {
        check.sentence("REFUSED when there is none.");
        DecimalPatterns x = new DecimalPatterns();
        check.same("of an empty text", x.at(0), -1);
        x.write(1234, 0, EXACT);
        for (int i : new int[] {-1, 4, 5, 39, 40, 99, 100, 101, 255, 256, 257, 512, Integer.MIN_VALUE, Integer.MAX_VALUE}) {
            check.same("at(" + i + ")", x.at(i), -1);
            States.changesNothing(check, "at(" + i + ")", States.NEW, y -> y.at(i), -1);
        }
        x.write(1, 0, EXACT);
        check.same("behind a text that was longer", x.at(1), -1);
        x.wipe();
        check.same("behind a text that was wiped", x.at(0), -1);
        States.changesNothing(check, "at(100)", States.FULL, y -> y.at(100), -1);
        States.changesNothing(check, "at(-1)", States.FULL, y -> y.at(-1), -1);
    }
}
