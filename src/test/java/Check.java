/** What the tests share: feeding texts, and telling answers that are not due. */
final class Check {
    private int wrong = 0;
    private int asked = 0;

    void due(String call, long got, long want) {
        asked++;
        if (got != want) {
            wrong++;
            if (wrong <= 50) {
                System.out.println(call + " answered " + got + ", due is " + want);
            }
        }
    }

    void due(String call, boolean got, boolean want) {
        due(call, got ? 1 : 0, want ? 1 : 0);
    }

    void end() {
        System.out.println(asked + " answers, " + wrong + " wrong");
        if (wrong != 0) {
            System.exit(1);
        }
    }

    /** Four bytes of a text as a number, blanks behind its end. */
    static int number(String text, int at) {
        int value = 0;
        for (int k = at; k < at + 4; k++) {
            value = value << 8 | (k < text.length() ? text.charAt(k) & 255 : 32);
        }
        return value;
    }

    /** Puts a text on the tape, in place of what is there; false if it does not fit. */
    static boolean feed(MarkBench x, String text) {
        x.end(0);
        for (int at = 0; at < text.length(); at += 20) {
            if (x.feed(number(text, at), number(text, at + 4), number(text, at + 8), number(text, at + 12),
                    number(text, at + 16)) < 0) {
                return false;
            }
        }
        return x.end(text.length()) == text.length();
    }

    static int book(MarkBench x, String text) {
        return feed(x, text) ? x.book() : -99;
    }

    static int line(MarkBench x, int day, String text) {
        return feed(x, text) ? x.line(day) : -99;
    }

    static MarkBench bench(String book, int day, String line) {
        MarkBench x = new MarkBench();
        if (book(x, book) < 0 || line(x, day, line) < 0) {
            throw new IllegalStateException("a test's own book or line can't be: " + book + " / " + line);
        }
        return x;
    }

    static String spelling(MarkBench x, int word, int reading) {
        StringBuilder letters = new StringBuilder();
        for (int k = 0; x.letter(word, reading, k) >= 0; k++) {
            letters.append((char) x.letter(word, reading, k));
        }
        return letters.toString();
    }

    static String text(MarkBench x, int gap) {
        StringBuilder bytes = new StringBuilder();
        for (int k = 0; x.text(gap, k) >= 0; k++) {
            bytes.append((char) x.text(gap, k));
        }
        return bytes.toString();
    }

    void same(String call, String got, String want) {
        asked++;
        if (!got.equals(want)) {
            wrong++;
            System.out.println(call + " answered '" + got + "', due is '" + want + "'");
        }
    }
}
