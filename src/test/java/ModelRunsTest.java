import java.util.Random;

/** Runs of up to 512 calls of all kinds, sound and wild ones, against a model of the whole object. The seed is fixed. */
public final class ModelRunsTest {
    private static final Check check = new Check();
    private static final Random random = new Random(14L);
    private static final String[] PIECES = {"#", "0", "#,##0", "0.0#", ".00", "0E0", "##0.0E+00", "E", "+", ",", ".", ";", "(", ")", "'", "''", "'1'",
        "-", "%", "x", "0", "#,#", "00", ";0", "5"};
    private static final int[] WILD = {Integer.MIN_VALUE, -2, -1, 0, 1, 5, 6, 7, 8, 9, 10, 18, 19, 39, 99, 100, 255, 256, Integer.MAX_VALUE};

    // A step makes at most some 150 calls, and nothing is promised after the 512th.
    private static final int LAST_STEP_FROM = 350;

    private DecimalPatterns x = new DecimalPatterns();
    private Model model = new Model();
    private int calls = 1;
    private String last = "";

    public static void main(String[] args) {
        for (int i = 0; i < 4000; i++) {
            new ModelRunsTest().run();
        }
        check.finish();
    }

    private void run() {
        while (calls < LAST_STEP_FROM) {
            step();
        }
    }

    private void due(String call, long got, long want) {
        calls++;
        last = call;
        check.same(call + " as call " + calls + ", text " + model.text(), got, want);
    }

    private void due(String call, boolean got, long want) {
        due(call, got ? 1 : 0, want);
    }

    private static int wild() {
        return WILD[random.nextInt(WILD.length)];
    }

    private static char character(String usual) {
        return random.nextInt(10) == 0 ? (char) random.nextInt(random.nextBoolean() ? 140 : 65536) : usual.charAt(random.nextInt(usual.length()));
    }

    private void step() {
        switch (random.nextInt(12)) {
            case 0:
                makePattern();
                break;
            case 1:
                int k = random.nextInt(10) == 0 ? wild() : random.nextInt(6);
                char c = character(".,-%E0+;!~_^Aau :12");
                due("symbol(" + k + ", " + c + ")", x.symbol(k, c), model.symbol(k, c));
                break;
            case 2:
                int n = random.nextInt(3) == 0 ? wild() : 1 + random.nextInt(3);
                due("groupFrom(" + n + ")", x.groupFrom(n), model.groupFrom(n));
                break;
            case 3:
            case 4:
            case 5:
            case 6:
                write();
                look();
                break;
            case 7:
                typeSome();
                break;
            case 8:
                int i = wild();
                due("at(" + i + ")", x.at(i), model.at(i));
                break;
            default:
                read();
        }
    }

    private void makePattern() {
        if (random.nextInt(3) > 0) {
            x.scrap();
            model.scrap();
            calls++;
        }
        int pieces = random.nextInt(6);
        for (int i = 0; i < pieces; i++) {
            for (char c : PIECES[random.nextInt(PIECES.length)].toCharArray()) {
                due("draft " + c, x.draft(c), model.draft(c));
            }
        }
        char c = character("0");
        due("draft " + c, x.draft(c), model.draft(c));
        due("apply", x.apply(), model.apply());
    }

    private void write() {
        long u = random.nextInt(3) == 0 ? random.nextLong() >> random.nextInt(64) : random.nextInt(20001) - 10000;
        u = random.nextInt(20) == 0 ? Long.MIN_VALUE : u;
        int s = random.nextInt(6) == 0 ? wild() : random.nextInt(5);
        int mode = random.nextInt(6) == 0 ? wild() : random.nextInt(8);
        due("write(" + u + ", " + s + ", " + mode + ")", x.write(u, s, mode), model.write(u, s, mode));
    }

    private void look() {
        String what = "length and at after " + last;
        due(what, x.length(), model.text().length());
        int from = random.nextInt(3);
        for (int i = from; i <= model.text().length(); i += 3) {
            due(what, x.at(i), model.at(i));
        }
    }

    private void typeSome() {
        if (random.nextInt(4) == 0) {
            x.wipe();
            model.wipe();
            calls++;
        }
        int many = random.nextInt(10) == 0 ? 110 : random.nextInt(3);
        for (int i = 0; i < many; i++) {
            char c = character("0123456789.,-%E+");
            due("type " + c, x.type(c), model.type(c));
        }
        look();
    }

    private void read() {
        due("read", x.read(), model.read());
        due("size", x.size(), model.size());
        due("scale", x.scale(), model.scale());
    }
}
