/** Longer steps made of the calls of DecimalPatterns. */
final class Use {
    private Use() {
    }

    static DecimalPatterns withPattern(String pattern) {
        DecimalPatterns x = new DecimalPatterns();
        int fault = applied(x, pattern);
        if (fault != 0) {
            throw new IllegalStateException("pattern " + pattern + ": apply() answered " + fault);
        }
        return x;
    }

    static boolean drafted(DecimalPatterns x, String characters) {
        boolean all = true;
        for (int i = 0; i < characters.length(); i++) {
            all &= x.draft(characters.charAt(i));
        }
        return all;
    }

    static int applied(DecimalPatterns x, String draft) {
        x.scrap();
        drafted(x, draft);
        return x.apply();
    }

    static boolean typed(DecimalPatterns x, String characters) {
        boolean all = true;
        for (int i = 0; i < characters.length(); i++) {
            all &= x.type(characters.charAt(i));
        }
        return all;
    }

    static String text(DecimalPatterns x) {
        StringBuilder seen = new StringBuilder();
        int length = x.length();
        for (int i = 0; i < length; i++) {
            seen.append((char) x.at(i));
        }
        return seen.toString();
    }

    /** The text that write leaves, or the answer by name if it writes nothing. */
    static String written(DecimalPatterns x, long u, int s, int mode) {
        int answer = x.write(u, s, mode);
        if (answer == DecimalPatterns.REFUSED) {
            return "REFUSED";
        }
        if (answer == DecimalPatterns.INEXACT) {
            return "INEXACT";
        }
        String text = text(x);
        return answer == text.length() ? text : "write answered " + answer + " for " + text;
    }

    /** What reading this text finds, in the form "+ m/s", "- m/s" or "none". */
    static String found(DecimalPatterns x, String text) {
        x.wipe();
        typed(x, text);
        return foundNow(x);
    }

    static String foundNow(DecimalPatterns x) {
        int answer = x.read();
        String number = x.size() + "/" + x.scale();
        if (answer == 0) {
            return number.equals("0/0") ? "none" : "none, but " + number;
        }
        return (answer == 1 ? "+ " : answer == -1 ? "- " : "read answered " + answer + " ") + number;
    }
}
