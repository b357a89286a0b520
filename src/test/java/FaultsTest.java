/** Books and lines that can't be (and some that just can), with the fault and the place that is due. */
public final class FaultsTest {
    private final Check check = new Check();

    public static void main(String[] args) {
        FaultsTest test = new FaultsTest();
        test.tokens();
        test.grammar();
        test.toldAlready();
        test.numbers();
        test.ends();
        test.tooMany();
        test.order();
        test.lines();
        test.check.end();
    }

    private void bad(String text, int fault, int place) {
        MarkBench x = new MarkBench();
        check.due("book of '" + text + "'", Check.book(x, text), -1);
        check.due("fault(0) of '" + text + "'", x.fault(0), fault);
        check.due("fault(1) of '" + text + "'", x.fault(1), place);
        check.due("bytes kept of '" + text + "'", x.about(9), text.length());
    }

    private void good(String text, int words) {
        MarkBench x = new MarkBench();
        check.due("book of '" + text + "'", Check.book(x, text), words);
        check.due("fault(0) of '" + text + "'", x.fault(0), 0);
        check.due("fault(1) of '" + text + "'", x.fault(1), -1);
        check.due("bytes left of '" + text + "'", x.about(9), 0);
    }

    private void badLine(String text, int place) {
        MarkBench x = new MarkBench();
        check.due("line of '" + text + "'", Check.line(x, 0, text), -1);
        check.due("fault(0) of '" + text + "'", x.fault(0), 1);
        check.due("fault(1) of '" + text + "'", x.fault(1), place);
        check.due("bytes kept of '" + text + "'", x.about(9), text.length());
    }

    private void goodLine(String text, int words) {
        MarkBench x = new MarkBench();
        check.due("line of '" + text + "'", Check.line(x, 0, text), words);
        check.due("fault(0) of '" + text + "'", x.fault(0), 0);
        check.due("fault(1) of '" + text + "'", x.fault(1), -1);
        check.due("bytes of '" + text + "'", x.about(5), text.length());
    }

    private void tokens() {
        good("", 0);
        good(" \n ", 0);
        good("word a1 1;word b1 1;", 2);
        good("word\na\n1\n1\n;\n", 1);
        bad("word a 1 1;\t", 1, 11);
        bad("\rword a 1 1;", 1, 0);
        bad("word a, 1 1;", 1, 6);
        bad("word a 1 1;\u0000", 1, 11);
        bad("word a 1 1;\u00ff", 1, 11);
        bad("word a 1 1since 2;", 1, 10);
        bad("word a 1x", 1, 8);
        good("word a 1 1 since 2until 3;".replace("2u", "2 u"), 1);
        bad("word a 1 1 since 2until 3;", 1, 18);
        good("word abcdefghijkl 1 1;", 1);
        // a token is twelve letters at most, so a thirteenth begins another
        bad("word abcdefghijklm 1 1;", 2, 17);
        good("end abcdefghijklABCDEFGHIJKL 1 1;", 0);
        good("word a 000001 000099;", 1);
        bad("word a 0000001 9;", 2, 15);
        bad("worda 1 1;", 2, 0);
    }

    private void grammar() {
        bad("word", 2, 4);
        bad("word  ", 2, 6);
        bad("word a", 2, 6);
        bad("word a 1", 2, 8);
        bad("word a 1 1", 2, 10);
        bad("word a 1 1 ", 2, 11);
        bad("Word a 1 1;", 2, 0);
        bad("since a 1 1;", 2, 0);
        bad("1 a 1 1;", 2, 0);
        bad(";", 2, 0);
        bad("word a 1 1;;", 2, 11);
        bad("word 1 1 1;", 2, 5);
        bad("word a b 1;", 2, 7);
        bad("word a 1 b;", 2, 9);
        bad("word a 1;", 2, 8);
        bad("word a 1 1 2;", 2, 11);
        bad("word a 1 1 until 2 since 1;", 2, 19);
        bad("word a 1 1 since 2 since 1;", 2, 19);
        bad("word a 1 1 since;", 2, 16);
        bad("word a 1 1 until x;", 2, 17);
        bad("word a 1 1 Since 1;", 2, 11);
        bad("name;", 2, 4);
        bad("name a b;", 2, 7);
        bad("name a", 2, 6);
        bad("pair 1 2;", 2, 8);
        bad("pair a 2 3;", 2, 5);
        bad("pair 1 2 3", 2, 10);
        bad("bar 1 2 3;", 2, 8);
        bad("bar 1;", 2, 5);
        bad("bare 1;", 2, 6);
        bad("bare 1 1", 2, 8);
        bad("end a 1 1;", 2, 6);
        bad("end a A 1;", 2, 9);
        bad("end a A 1 1", 2, 11);
        good("word word 1 1; word end 1 1; word since 1 1 since 1 until 2; word until 1 1 until 2;", 4);
        good("name name; name pair; name bar; name bare; end end End 1 1; bare 1 1;", 0);
    }

    private void toldAlready() {
        bad("word a 1 1; word a 1 2;", 3, 17);
        good("word a 1 1; word a 2 1; word A 1 1;", 3);
        bad("word a 1 1; word a 01 2;", 3, 17);
        bad("word a 1 1; word a 1", 3, 17);
        bad("word a 1 1; word a 1 100;", 3, 17);
        bad("word a 1 1; word a 8 1;", 4, 19);
        bad("name ab; name Ab;", 3, 14);
        bad("name ab; name aB", 3, 14);
        good("name ab; name abc; word ab 1 1;", 1);
        bad("pair 1 2 3; pair 1 2 3;", 3, 17);
        bad("pair 1 2 3; bar 1 2;", 3, 16);
        bad("bar 1 2; pair 1 2 3;", 3, 14);
        bad("bar 1 2; bar 1 2", 3, 13);
        good("pair 1 2 3; pair 2 1 3; bar 1 1;", 0);
        good("end a A 1 1; end a A 1 1;", 0);
    }

    private void numbers() {
        good("word a 7 99 since 100000 until 100000; bare 7 99; pair 7 7 99; bar 0 7; end a A 7 99;", 1);
        good("word a 0 0 since 0 until 0; word b 1 1 since 9 until 2;", 2);
        bad("word a 8 1;", 4, 7);
        bad("word a 1 100;", 4, 9);
        bad("word a 1 1 since 100001;", 4, 17);
        bad("word a 1 1 until 999999;", 4, 17);
        bad("end a A 8 1;", 4, 8);
        bad("end a A 1 100;", 4, 10);
        bad("pair 8 1 1;", 4, 5);
        bad("pair 1 8 1;", 4, 7);
        bad("pair 1 1 100;", 4, 9);
        bad("bar 8 1;", 4, 4);
        bad("bar 1 8;", 4, 6);
        bad("bare 8 1;", 4, 5);
        bad("bare 1 100;", 4, 7);
        bad("word a 1234567 1;", 4, 7);
    }

    private void ends() {
        bad("end ab a 1 1;", 5, 7);
        bad("end a ab 1 1;", 5, 6);
        bad("end ab ac 1 1;", 5, 7);
        bad("end ab AC 9 1;", 5, 7);
        good("end AB ab 1 1; end ab AB 1 1; end Ab aB 1 1; end a a 1 1;", 0);
    }

    private static String many(int times, String ahead, String behind) {
        StringBuilder text = new StringBuilder();
        for (int k = 0; k < times; k++) {
            text.append(ahead).append((char) ('a' + k % 26)).append((char) ('a' + k / 26)).append(behind);
        }
        return text.toString();
    }

    private void tooMany() {
        String words = many(80, "word ", " 1 1;");
        good(words, 80);
        bad(words + " word", 2, words.length() + 1);
        bad(words + "word aa 9 1;", 2, words.length());
        String ends = many(20, "end x X 1 1; name ", ";");
        good(ends, 0);
        bad(ends + "end x X 1 1;", 2, ends.length());
        bad(ends + "name aa;", 2, ends.length());
        StringBuilder pairs = new StringBuilder();
        for (int k = 0; k < 40; k++) {
            pairs.append(k % 2 == 0 ? "pair " : "bar ").append(k / 8).append(' ').append(k % 8)
                    .append(k % 2 == 0 ? " 1;" : ";");
        }
        good(pairs.toString(), 0);
        bad(pairs + "pair 0 0 1;", 2, pairs.length());
        bad(pairs + "bar 7 7;", 2, pairs.length());
        bad("bare 1 1; bare 1 1;", 2, 10);
    }

    /** The first by its place is told, whatever comes behind. */
    private void order() {
        bad("word a 9 100; $", 4, 7);
        bad("word a 1 1 $ word", 1, 11);
        bad("word a 1 1; word a 1$", 3, 17);
        bad("pair 1 1 1; pair 1 1 100;", 3, 17);
        MarkBench x = new MarkBench();
        check.due("fault(0) of a new bench", x.fault(0), 0);
        check.due("fault(1) of a new bench", x.fault(1), -1);
        check.due("fault(2)", x.fault(2), -1);
        check.due("fault(-1)", x.fault(-1), -1);
        Check.book(x, "word a 9 1;");
        check.due("a day that can't be", x.line(-1), -2);
        check.due("fault(0) behind a -2", x.fault(0), 4);
        check.due("fault(1) behind a -2", x.fault(1), 7);
        Check.line(x, 0, "ab cd");
        check.due("fault(0) behind a good line", x.fault(0), 0);
        check.due("fault(1) behind a good line", x.fault(1), -1);
    }

    private void lines() {
        goodLine("", 0);
        goodLine("   ", 0);
        goodLine("a", 1);
        goodLine("  a  =b   C ", 3);
        goodLine("abcdefghijkl ABCDEFGHIJKL", 2);
        goodLine("a b c d e f g h i j k l m =n  ", 14);
        badLine("a\nb", 1);
        badLine("a1", 1);
        badLine("a;", 1);
        badLine("a\u00e9", 1);
        badLine("a=b", 1);
        badLine("a b= c", 3);
        badLine("==a", 1);
        badLine("a = b", 3);
        badLine("=", 1);
        badLine("a =", 3);
        badLine("=1", 1);
        badLine("abcdefghijklm", 12);
        badLine("a =abcdefghijklm", 15);
        badLine("a b c d e f g h i j k l m n o", 28);
        badLine("a b c d e f g h i j k l m n  abcdefghijklm", 29);
        badLine("a b c d e f g h i j k l m n =o", 29);
        badLine("a b c d e f g h i j k l m n =1", 29);
        badLine("a b c d e f g h i j k l m n $", 28);
        MarkBench x = new MarkBench();
        String blanks = " ".repeat(199);
        check.due("200 bytes", Check.line(x, 0, blanks + "a"), 1);
        check.due("201 bytes", Check.line(x, 0, blanks + "  "), -2);
        check.due("201 bytes stay", x.about(9), 201);
        check.due("the line stays", x.about(4), 1);
        x.end(200);
        check.due("day -1", x.line(-1), -2);
        check.due("day 100001", x.line(100001), -2);
        check.due("they stay", x.about(9), 200);
        check.due("day 100000", x.line(100000), 0);
        check.due("its day", x.about(6), 100000);
    }
}
