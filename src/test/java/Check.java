/** What the tests share: feeding texts, and telling answers that are not due. */
final class Check {
    private int wrong = 0;
    private int asked = 0;

    void due(String call, long got, long want) {
        asked++;
        if (got != want) {
            wrong++;
            if (wrong <= 50) {
                System.out.println(call + " answered " + got + ", due is " + want);
            }
        }
    }

    void due(String call, boolean got, boolean want) {
        due(call, got ? 1 : 0, want ? 1 : 0);
    }

    void end() {
        System.out.println(asked + " answers, " + wrong + " wrong");
        if (wrong != 0) {
            System.exit(1);
        }
    }

    /** Four bytes of a text as a number, blanks behind its end. */
    static int number(String text, int at) {
        int value = 0;
        for (int k = at; k < at + 4; k++) {
            value = value << 8 | (k < text.length() ? text.charAt(k) & 255 : 32);
        }
        return value;
    }

    /** Puts a text on the tape, in place of what is there; false if it does not fit. */
    static boolean feed(MarkBench x, String text) {
        x.end(0);
        for (int at = 0; at < text.length(); at += 20) {
            if (x.feed(number(text, at), number(text, at + 4), number(text, at + 8), number(text, at + 12),
                    number(text, at + 16)) < 0) {
                return false;
            }
        }
        return x.end(text.length()) == text.length();
    }

    static int book(MarkBench x, String text) {
        return feed(x, text) ? x.book() : -99;
    }

    static int line(MarkBench x, int day, String text) {
        return feed(x, text) ? x.line(day) : -99;
    }

    static MarkBench bench(String book, int day, String line) {
        MarkBench x = new MarkBench();
        if (book(x, book) < 0 || line(x, day, line) < 0) {
            throw new IllegalStateException("a test's own book or line can't be: " + book + " / " + line);
        }
        return x;
    }

    static String spelling(MarkBench x, int word, int reading) {
        StringBuilder letters = new StringBuilder();
        for (int c = x.letter(word, reading, 0); c >= 0; c = x.letter(word, reading, letters.length())) {
            letters.append((char) c);
        }
        return letters.toString();
    }

    /** One call a byte: a bench answers 512 calls alone. */
    static String text(MarkBench x, int gap) {
        StringBuilder bytes = new StringBuilder();
        for (int c = x.text(gap, 0); c >= 0; c = x.text(gap, bytes.length())) {
            bytes.append((char) c);
        }
        return bytes.toString();
    }

    /** A book that a new bench refuses, with the fault and the place that is due. */
    void bad(String text, int fault, int place) {
        MarkBench x = new MarkBench();
        due("book of '" + text + "'", book(x, text), -1);
        due("fault(0) of '" + text + "'", x.fault(0), fault);
        due("fault(1) of '" + text + "'", x.fault(1), place);
        due("bytes kept of '" + text + "'", x.about(9), text.length());
    }

    /** A book that a new bench takes, with how many words it has. */
    void good(String text, int words) {
        MarkBench x = new MarkBench();
        due("book of '" + text + "'", book(x, text), words);
        due("words of '" + text + "'", x.about(0), words);
        due("fault(0) of '" + text + "'", x.fault(0), 0);
        due("fault(1) of '" + text + "'", x.fault(1), -1);
        due("bytes left of '" + text + "'", x.about(9), 0);
    }

    /** A line that a new bench refuses, with the place that is due. */
    void badLine(String text, int place) {
        MarkBench x = new MarkBench();
        due("line of '" + text + "'", line(x, 0, text), -1);
        due("fault(0) of '" + text + "'", x.fault(0), 1);
        due("fault(1) of '" + text + "'", x.fault(1), place);
        due("bytes kept of '" + text + "'", x.about(9), text.length());
    }

    /** A line that a new bench takes, with how many words it has. */
    void goodLine(String text, int words) {
        MarkBench x = new MarkBench();
        due("line of '" + text + "'", line(x, 0, text), words);
        due("words of '" + text + "'", x.about(4), words);
        due("fault(0) of '" + text + "'", x.fault(0), 0);
        due("fault(1) of '" + text + "'", x.fault(1), -1);
        due("bytes of '" + text + "'", x.about(5), text.length());
        due("bytes left of '" + text + "'", x.about(9), 0);
    }

    void same(String call, String got, String want) {
        asked++;
        if (!got.equals(want)) {
            wrong++;
            System.out.println(call + " answered '" + got + "', due is '" + want + "'");
        }
    }
}
