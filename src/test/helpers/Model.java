import java.math.BigDecimal;

/** A whole object as the document describes it, over the oracle. Booleans count 1 and 0. */
final class Model {
    private final StringBuilder draft = new StringBuilder();
    private final StringBuilder text = new StringBuilder();
    private Oracle oracle = new Oracle("0");
    private long size;
    private int scale;

    private static boolean plain(int c) {
        return c >= 32 && c <= 126;
    }

    long draft(char c) {
        if (!plain(c) || draft.length() == 40) {
            return 0;
        }
        draft.append(c);
        return 1;
    }

    void scrap() {
        draft.setLength(0);
    }

    long apply() {
        int fault = Oracle.fault(draft.toString());
        if (fault == 0) {
            Oracle next = new Oracle(draft.toString());
            System.arraycopy(oracle.symbols, 0, next.symbols, 0, 6);
            next.groupLead = oracle.groupLead;
            oracle = next;
            scrap();
        }
        return fault;
    }

    long symbol(int k, char c) {
        if (k < 0 || k > 5) {
            return 0;
        }
        char[] next = oracle.symbols.clone();
        next[k] = c;
        StringBuilder all = new StringBuilder("+").append(next, 0, 5);
        for (int i = 0; i < 10; i++) {
            all.append((char) (next[5] + i));
        }
        if (all.chars().distinct().count() != 16 || !all.chars().allMatch(Model::plain)) {
            return 0;
        }
        oracle.symbols[k] = c;
        return 1;
    }

    long groupFrom(int n) {
        if (n < 1 || n > 9) {
            return 0;
        }
        oracle.groupLead = n;
        return 1;
    }

    long write(long u, int s, int mode) {
        if (s < 0 || s > 18 || mode < 0 || mode > 7) {
            return -1;
        }
        String written = oracle.written(u < 0, BigDecimal.valueOf(u, s).abs(), mode);
        if (written.equals("INEXACT")) {
            return -2;
        }
        wipe();
        text.append(written);
        return text.length();
    }

    long type(char c) {
        if (!plain(c) || text.length() >= 100) {
            return 0;
        }
        text.append(c);
        return 1;
    }

    void wipe() {
        text.setLength(0);
    }

    String text() {
        return text.toString();
    }

    long at(int i) {
        return i >= 0 && i < text.length() ? text.charAt(i) : -1;
    }

    long read() {
        String found = oracle.found(text.toString());
        size = 0;
        scale = 0;
        if (found.equals("none")) {
            return 0;
        }
        String[] parts = found.substring(2).split("/");
        size = Long.parseLong(parts[0]);
        scale = Integer.parseInt(parts[1]);
        return found.startsWith("+") ? 1 : -1;
    }

    long size() {
        return size;
    }

    long scale() {
        return scale;
    }
}
