/** Books and lines that can't be (and some that just can), with the fault and the place that is due. */
public final class FaultsTest {
    private final Check check = new Check();

    public static void main(String[] args) {
        FaultsTest test = new FaultsTest();
        test.tokens();
        test.grammar();
        test.toldAlready();
        test.numbers();
        test.ends();
        test.tooMany();
        test.order();
        test.lines();
        test.check.end();
    }

    private void tokens() {
        check.good("", 0);
        check.good(" \n ", 0);
        check.good("word a1 1;word b1 1;", 2);
        check.good("word\na\n1\n1\n;\n", 1);
        check.bad("word a 1 1;\t", 1, 11);
        check.bad("\rword a 1 1;", 1, 0);
        check.bad("word a, 1 1;", 1, 6);
        check.bad("word a 1 1;\u0000", 1, 11);
        check.bad("word a 1 1;\u00ff", 1, 11);
        check.bad("word a 1 1since 2;", 1, 10);
        check.bad("word a 1x", 1, 8);
        check.good("word a 1 1 since 2until 3;".replace("2u", "2 u"), 1);
        check.bad("word a 1 1 since 2until 3;", 1, 18);
        check.good("word abcdefghijkl 1 1;", 1);
        // a token is twelve letters at most, so a thirteenth begins another
        check.bad("word abcdefghijklm 1 1;", 2, 17);
        check.good("end abcdefghijklABCDEFGHIJKL 1 1;", 0);
        check.good("word a 000001 000099;", 1);
        check.bad("word a 0000001 9;", 2, 15);
        check.bad("worda 1 1;", 2, 0);
    }

    private void grammar() {
        check.bad("word", 2, 4);
        check.bad("word  ", 2, 6);
        check.bad("word a", 2, 6);
        check.bad("word a 1", 2, 8);
        check.bad("word a 1 1", 2, 10);
        check.bad("word a 1 1 ", 2, 11);
        check.bad("Word a 1 1;", 2, 0);
        check.bad("since a 1 1;", 2, 0);
        check.bad("1 a 1 1;", 2, 0);
        check.bad(";", 2, 0);
        check.bad("word a 1 1;;", 2, 11);
        check.bad("word 1 1 1;", 2, 5);
        check.bad("word a b 1;", 2, 7);
        check.bad("word a 1 b;", 2, 9);
        check.bad("word a 1;", 2, 8);
        check.bad("word a 1 1 2;", 2, 11);
        check.bad("word a 1 1 until 2 since 1;", 2, 19);
        check.bad("word a 1 1 since 2 since 1;", 2, 19);
        check.bad("word a 1 1 since;", 2, 16);
        check.bad("word a 1 1 until x;", 2, 17);
        check.bad("word a 1 1 Since 1;", 2, 11);
        check.bad("name;", 2, 4);
        check.bad("name a b;", 2, 7);
        check.bad("name a", 2, 6);
        check.bad("pair 1 2;", 2, 8);
        check.bad("pair a 2 3;", 2, 5);
        check.bad("pair 1 2 3", 2, 10);
        check.bad("bar 1 2 3;", 2, 8);
        check.bad("bar 1;", 2, 5);
        check.bad("bare 1;", 2, 6);
        check.bad("bare 1 1", 2, 8);
        check.bad("end a 1 1;", 2, 6);
        check.bad("end a A 1;", 2, 9);
        check.bad("end a A 1 1", 2, 11);
        check.good("word word 1 1; word end 1 1; word since 1 1 since 1 until 2; word until 1 1 until 2;", 4);
        check.good("name name; name pair; name bar; name bare; end end End 1 1; bare 1 1;", 0);
    }

    private void toldAlready() {
        check.bad("word a 1 1; word a 1 2;", 3, 17);
        check.good("word a 1 1; word a 2 1; word A 1 1;", 3);
        check.bad("word a 1 1; word a 01 2;", 3, 17);
        check.bad("word a 1 1; word a 1", 3, 17);
        check.bad("word a 1 1; word a 1 100;", 3, 17);
        check.bad("word a 1 1; word a 8 1;", 4, 19);
        check.bad("name ab; name Ab;", 3, 14);
        check.bad("name ab; name aB", 3, 14);
        check.good("name ab; name abc; word ab 1 1;", 1);
        check.bad("pair 1 2 3; pair 1 2 3;", 3, 17);
        check.bad("pair 1 2 3; bar 1 2;", 3, 16);
        check.bad("bar 1 2; pair 1 2 3;", 3, 14);
        check.bad("bar 1 2; bar 1 2", 3, 13);
        check.good("pair 1 2 3; pair 2 1 3; bar 1 1;", 0);
        check.good("end a A 1 1; end a A 1 1;", 0);
    }

    private void numbers() {
        check.good("word a 7 99 since 100000 until 100000; bare 7 99; pair 7 7 99; bar 0 7; end a A 7 99;", 1);
        check.good("word a 0 0 since 0 until 0; word b 1 1 since 9 until 2;", 2);
        check.bad("word a 8 1;", 4, 7);
        check.bad("word a 1 100;", 4, 9);
        check.bad("word a 1 1 since 100001;", 4, 17);
        check.bad("word a 1 1 until 999999;", 4, 17);
        check.bad("end a A 8 1;", 4, 8);
        check.bad("end a A 1 100;", 4, 10);
        check.bad("pair 8 1 1;", 4, 5);
        check.bad("pair 1 8 1;", 4, 7);
        check.bad("pair 1 1 100;", 4, 9);
        check.bad("bar 8 1;", 4, 4);
        check.bad("bar 1 8;", 4, 6);
        check.bad("bare 8 1;", 4, 5);
        check.bad("bare 1 100;", 4, 7);
        check.bad("word a 1234567 1;", 4, 7);
    }

    private void ends() {
        check.bad("end ab a 1 1;", 5, 7);
        check.bad("end a ab 1 1;", 5, 6);
        check.bad("end ab ac 1 1;", 5, 7);
        check.bad("end ab AC 9 1;", 5, 7);
        check.good("end AB ab 1 1; end ab AB 1 1; end Ab aB 1 1; end a a 1 1;", 0);
    }

    private static String many(int times, String ahead, String behind) {
        StringBuilder text = new StringBuilder();
        for (int k = 0; k < times; k++) {
            text.append(ahead).append((char) ('a' + k % 26)).append((char) ('a' + k / 26)).append(behind);
        }
        return text.toString();
    }

    private void tooMany() {
        String words = many(80, "word ", " 1 1;");
        check.good(words, 80);
        check.bad(words + " word", 2, words.length() + 1);
        check.bad(words + "word aa 9 1;", 2, words.length());
        String ends = many(20, "end x X 1 1; name ", ";");
        check.good(ends, 0);
        check.bad(ends + "end x X 1 1;", 2, ends.length());
        check.bad(ends + "name aa;", 2, ends.length());
        StringBuilder pairs = new StringBuilder();
        for (int k = 0; k < 40; k++) {
            pairs.append(k % 2 == 0 ? "pair " : "bar ").append(k / 8).append(' ').append(k % 8)
                    .append(k % 2 == 0 ? " 1;" : ";");
        }
        check.good(pairs.toString(), 0);
        check.bad(pairs + "pair 0 0 1;", 2, pairs.length());
        check.bad(pairs + "bar 7 7;", 2, pairs.length());
        check.bad("bare 1 1; bare 1 1;", 2, 10);
    }

    /** The first by its place is told, whatever comes behind. */
    private void order() {
        check.bad("word a 9 100; $", 4, 7);
        check.bad("word a 1 1 $ word", 1, 11);
        check.bad("word a 1 1; word a 1$", 3, 17);
        check.bad("pair 1 1 1; pair 1 1 100;", 3, 17);
        MarkBench x = new MarkBench();
        check.due("fault(0) of a new bench", x.fault(0), 0);
        check.due("fault(1) of a new bench", x.fault(1), -1);
        check.due("fault(2)", x.fault(2), -1);
        check.due("fault(-1)", x.fault(-1), -1);
        Check.book(x, "word a 9 1;");
        check.due("a day that can't be", x.line(-1), -2);
        check.due("fault(0) behind a -2", x.fault(0), 4);
        check.due("fault(1) behind a -2", x.fault(1), 7);
        Check.line(x, 0, "ab cd");
        check.due("fault(0) behind a good line", x.fault(0), 0);
        check.due("fault(1) behind a good line", x.fault(1), -1);
    }

    private void lines() {
        check.goodLine("", 0);
        check.goodLine("   ", 0);
        check.goodLine("a", 1);
        check.goodLine("  a  =b   C ", 3);
        check.goodLine("abcdefghijkl ABCDEFGHIJKL", 2);
        check.goodLine("a b c d e f g h i j k l m =n  ", 14);
        check.badLine("a\nb", 1);
        check.badLine("a1", 1);
        check.badLine("a;", 1);
        check.badLine("a\u00e9", 1);
        check.badLine("a=b", 1);
        check.badLine("a b= c", 3);
        check.badLine("==a", 1);
        check.badLine("a = b", 3);
        check.badLine("=", 1);
        check.badLine("a =", 3);
        check.badLine("=1", 1);
        check.badLine("abcdefghijklm", 12);
        check.badLine("a =abcdefghijklm", 15);
        check.badLine("a b c d e f g h i j k l m n o", 28);
        check.badLine("a b c d e f g h i j k l m n  abcdefghijklm", 29);
        check.badLine("a b c d e f g h i j k l m n =o", 29);
        check.badLine("a b c d e f g h i j k l m n =1", 29);
        check.badLine("a b c d e f g h i j k l m n $", 28);
        MarkBench x = new MarkBench();
        String blanks = " ".repeat(199);
        check.due("200 bytes", Check.line(x, 0, blanks + "a"), 1);
        check.due("201 bytes", Check.line(x, 0, blanks + "  "), -2);
        check.due("201 bytes stay", x.about(9), 201);
        check.due("the line stays", x.about(4), 1);
        x.end(200);
        check.due("day -1", x.line(-1), -2);
        check.due("day 100001", x.line(100001), -2);
        check.due("they stay", x.about(9), 200);
        check.due("day 100000", x.line(100000), 0);
        check.due("its day", x.about(6), 100000);
    }
}
