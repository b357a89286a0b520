/** Each promise by its number: ordinary inputs, edges and wrong inputs. */
public final class PromisesTest {
    private static final String FRENCH = "word cote 1 10; word cOte 2 20; word cotE 1 15; word la 3 5; word lA 4 9;"
            + " pair 3 1 0; pair 3 2 4; bar 4 1; name paris; end er Er 5 30; bare 6 40; word ete 1 5 since 10 until 20;";
    private static final int LOW = Integer.MIN_VALUE;
    private static final int HIGH = Integer.MAX_VALUE;
    private final Check check = new Check();

    public static void main(String[] args) {
        PromisesTest test = new PromisesTest();
        test.newObject();
        test.feedAndEnd();
        test.book();
        test.line();
        test.metre();
        test.readings();
        test.readingsByEnds();
        test.reading();
        test.bestAndChoice();
        test.ways();
        test.sureAndText();
        test.settle();
        test.back();
        test.hands();
        test.ask();
        test.entry();
        test.wrongNumbers();
        test.check.end();
    }

    /** Promise 1. */
    private void newObject() {
        MarkBench x = new MarkBench();
        int[] about = {0, 0, 0, 0, 0, 0, 0, -1, 0, 0};
        for (int what = 0; what < about.length; what++) {
            check.due("about(" + what + ") of a new bench", x.about(what), about[what]);
        }
        check.due("about(10)", x.about(10), -1);
        check.due("about(-1)", x.about(-1), -1);
        check.due("best() of a new bench", x.best(), 0);
        check.due("line without a book", Check.line(x, 3, "ab"), 1);
        check.due("bare's kind, untold", x.reading(0, 0, 0), 0);
        check.due("bare's cost, untold", x.reading(0, 0, 1), 50);
        check.due("best() without a book", x.best(), 50);
    }

    /** Promises 2 and 3. */
    private void feedAndEnd() {
        MarkBench x = new MarkBench();
        for (int k = 1; k <= 100; k++) {
            check.due("feed", x.feed(0x20202020, 0x20202020, 0x20202020, 0x20202020, 0x20202020), 20 * k);
        }
        check.due("feed beyond 2000", x.feed(0, 0, 0, 0, 0), -1);
        check.due("all stays", x.about(9), 2000);
        check.due("end(2001)", x.end(2001), -1);
        check.due("end(-1)", x.end(-1), -1);
        check.due("end(2000)", x.end(2000), 2000);
        check.due("2000 bytes are a book", x.book(), 0);
        Check.feed(x, " ".repeat(1981));
        check.due("feed up to 2001", x.feed(0, 0, 0, 0, 0), -1);
        check.due("end(1980)", x.end(1980), 1980);
        check.due("feed up to 2000", x.feed(0, 0, 0, 0, 0), 2000);
        check.due("end(0)", x.end(0), 0);
        check.due("end(1) of none", x.end(1), -1);
        x.feed(0x61622041, 0x42203d63, 0x20202020, 0x64656667, 0xff6a6b6c);
        check.due("a byte above 127 is no letter", x.line(0), -1);
        check.due("its place", x.fault(1), 16);
        x.end(16);
        check.due("the bytes ahead of it", x.line(0), 4);
        check.same("in their order", Check.text(x, 0), "ab AB =c    defg");
    }

    /** Promise 4. */
    private void book() {
        MarkBench x = Check.bench(FRENCH, 15, "la cote");
        x.metre(7);
        x.settle(0, 0);
        check.due("a bad book", Check.book(x, "word a 9 9;"), -1);
        check.due("words stay", x.about(0), 6);
        check.due("the line stays", x.about(4), 2);
        check.due("hands stay", x.about(8), 1);
        check.due("what is learnt stays", x.entry(3, 2), 1);
        check.due("the tape stays", x.about(9), 11);
        check.due("a book", Check.book(x, "word la 1 1; bar 1 1; pair 1 2 3; end a A 1 1; name x; name y; name z;"), 1);
        int[] about = {1, 1, 3, 2, 0, 0, 15, 7, 0, 0};
        for (int what = 0; what < about.length; what++) {
            check.due("about(" + what + ") behind a book", x.about(what), about[what]);
        }
        check.due("nothing is learnt", x.entry(0, 2), 0);
        check.due("no hand is there", x.back(0), false);
        check.due("best() without words", x.best(), 0);
        check.due("text(0, 0) without words", x.text(0, 0), -1);
        check.due("an empty book", Check.book(x, ""), 0);
        check.due("its pairs", x.about(3), 0);
        Check.line(x, 0, "a b");
        check.due("bars of the book ahead are gone", x.best(), -2);
        x.metre(-1);
        check.due("bars of the book ahead are gone", x.best(), 100);
    }

    /** Promise 5. */
    private void line() {
        MarkBench x = Check.bench(FRENCH, 9, " la  cote ");
        check.due("bytes", x.about(5), 10);
        check.due("day", x.about(6), 9);
        check.due("a bad line", Check.line(x, 10, "la cote,"), -1);
        check.due("the day stays", x.about(6), 9);
        check.same("the text stays", Check.text(x, 0), " la  cote ");
        check.due("settled", x.settle(1, 1), 0);
        check.due("alone", x.readings(1), 1);
        check.due("the same line again", Check.line(x, 9, " la  cote "), 2);
        check.due("begins without hands", x.readings(1), 3);
        check.due("what was learnt stays", x.reading(1, 1, 1), 19);
        check.due("hands are kept", x.about(8), 1);
    }

    /** Promise 7. */
    private void metre() {
        MarkBench x = Check.bench("word ae 1 1; word Ae 1 2; word AE 1 3; word AEb 1 4; word xyZ 1 5;", 0, "ae aeb ae xyz");
        check.due("weights 2 to 4, 4, 2 to 4, 0", x.reading(1, 0, 2), 4);
        check.due("no vowel, no weight", x.reading(3, 0, 2), 0);
        int[] best = {-2, 11, 12, 13, 14, 15, -2};
        for (int weight = 7; weight <= 13; weight++) {
            check.due("metre(" + weight + ")", x.metre(weight), true);
            check.due("about(7)", x.about(7), weight);
            check.due("best() by " + weight, x.best(), best[weight - 7]);
        }
        check.due("metre(0)", x.metre(0), true);
        check.due("metre(400)", x.metre(400), true);
        check.due("metre(401)", x.metre(401), false);
        check.due("metre(-2)", x.metre(-2), false);
        check.due("it stays", x.about(7), 400);
        check.due("best() by 400", x.best(), -2);
        check.due("metre(-1)", x.metre(-1), true);
        check.due("none", x.about(7), -1);
        check.due("best() without", x.best(), 11);
        x.metre(9);
        check.due("ways by 9", x.ways(100), 2);
        check.due("choice by 9", x.choice(0), 0);
        check.due("choice by 9", x.choice(2), 1);
        check.due("through by 9", x.reading(0, 1, 5), 12);
        check.due("through of none by 9", x.reading(0, 2, 5), -1);
    }

    /** Promise 8: out of the book, kept and by names. */
    private void readings() {
        String book = "word ab 1 1; word Ab 2 2; word aB 3 3; word AB 4 4 since 5; word ab 5 5 until 4; word abc 1 1; name Na;";
        MarkBench x = Check.bench(book, 4, "ab Ab aB AB =ab =AB na nA abc");
        int[] at4 = {4, 1, 1, 1, 1, 1, 1, 1, 1};
        for (int word = 0; word < at4.length; word++) {
            check.due("readings(" + word + ")", x.readings(word), at4[word]);
        }
        check.same("left alone: no word of the book has both marks", Check.spelling(x, 3, 0), "AB");
        check.due("so it is none of them", x.reading(3, 0, 4), -1);
        check.same("kept", Check.spelling(x, 5, 0), "AB");
        check.due("kept: kind", x.reading(5, 0, 0), 7);
        check.due("kept: cost", x.reading(5, 0, 1), 0);
        check.same("a name as it stands", Check.spelling(x, 7, 0), "nA");
        check.due("a name: kind", x.reading(7, 0, 0), 7);
        Check.line(x, 5, "ab Ab aB AB");
        int[] at5 = {4, 2, 2, 1};
        for (int word = 0; word < at5.length; word++) {
            check.due("readings(" + word + ") on day 5", x.readings(word), at5[word]);
        }
        check.due("the fourth on day 5", x.reading(0, 3, 4), 3);
        check.due("since that day", x.reading(3, 0, 4), 3);
        check.due("no word ahead", x.readings(-1), -1);
        check.due("no word behind", x.readings(4), -1);
        StringBuilder many = new StringBuilder();
        for (int k = 0; k < 16; k++) {
            many.append("word ").append(k < 8 ? "ab" : "aB").append(' ').append(k % 8).append(' ').append(k).append(';');
        }
        x = Check.bench(many.toString(), 0, "ab aB");
        check.due("the first twelve", x.readings(0), 12);
        check.due("the twelfth", x.reading(0, 11, 4), 11);
        check.due("eight with the mark", x.readings(1), 8);
    }

    /** Promise 8: by endings, or left alone. */
    private void readingsByEnds() {
        String book = "end er Er 1 10; end er eR 2 20; end r R 3 30; end R r 4 40; end xer xEr 5 50; end er Er 6 60; word er 1 1 until 3;";
        MarkBench x = Check.bench(book, 4, "xer Xer xEr xeR er r xe");
        int[] counts = {3, 3, 2, 1, 3, 2, 1};
        for (int word = 0; word < counts.length; word++) {
            check.due("readings(" + word + ")", x.readings(word), counts[word]);
        }
        String[] first = {"xEr", "xeR", "xer"};
        int[] kinds = {1, 2, 4};
        int[] costs = {10, 20, 40};
        for (int reading = 0; reading < 3; reading++) {
            check.same("spelling " + reading, Check.spelling(x, 0, reading), first[reading]);
            check.due("kind " + reading, x.reading(0, reading, 0), kinds[reading]);
            check.due("cost " + reading, x.reading(0, reading, 1), costs[reading]);
        }
        check.same("marks ahead of the end stay", Check.spelling(x, 1, 0), "XEr");
        check.same("what is marked stays so", Check.spelling(x, 2, 0), "xEr");
        check.due("by the first end", x.reading(2, 0, 0), 1);
        check.same("a shorter end leaves a mark ahead of it", Check.spelling(x, 2, 1), "xER");
        check.same("what is marked stays so", Check.spelling(x, 3, 0), "xeR");
        check.same("the end is all of it", Check.spelling(x, 4, 1), "eR");
        check.due("left alone: kind", x.reading(6, 0, 0), 0);
        check.due("left alone: cost", x.reading(6, 0, 1), 50);
        Check.line(x, 3, "er");
        check.due("a word in force leaves no end", x.readings(0), 1);
        check.due("the word", x.reading(0, 0, 4), 0);
        Check.line(x, 3, "eR");
        check.due("no word has the mark: by ends", x.readings(0), 1);
        StringBuilder many = new StringBuilder("bare 3 33;");
        for (int k = 1; k < 15; k++) {
            StringBuilder form = new StringBuilder();
            for (int bit = 0; bit < 4; bit++) {
                form.append((k >> bit & 1) == 1 ? 'A' : 'a');
            }
            many.append("end aaaa ").append(form).append(" 1 ").append(k).append(';');
        }
        x = Check.bench(many.toString(), 0, "aaaa baaaA");
        check.due("the first twelve, not itself", x.readings(0), 12);
        check.due("the twelfth", x.reading(0, 11, 1), 12);
        check.due("eight or more have the last mark", x.readings(1), 7);
        check.due("the first of them", x.reading(1, 0, 1), 8);
        check.due("itself is by an end already", x.reading(1, 0, 0), 1);
        check.due("no bare one left", x.reading(1, 6, 1), 14);
    }

    /** Promises 9 and 10. */
    private void reading() {
        MarkBench x = Check.bench(FRENCH, 0, "la cote paris parler");
        int[] cote = {2, 20, 3, 4, 1, 59};
        for (int what = 0; what < cote.length; what++) {
            check.due("reading(1, 1, " + what + ")", x.reading(1, 1, what), cote[what]);
        }
        check.due("reading(1, 1, 6)", x.reading(1, 1, 6), -1);
        check.due("reading(1, 1, -1)", x.reading(1, 1, -1), -1);
        check.due("reading(1, 3, 0)", x.reading(1, 3, 0), -1);
        check.due("reading(1, -1, 0)", x.reading(1, -1, 0), -1);
        check.due("reading(4, 0, 0)", x.reading(4, 0, 0), -1);
        check.due("reading(0, 12, 0)", x.reading(0, 12, 0), -1);
        check.same("cOte", Check.spelling(x, 1, 1), "cOte");
        check.same("parlEr", Check.spelling(x, 3, 0), "parlEr");
        check.due("letter(1, 1, 0)", x.letter(1, 1, 0), 'c');
        check.due("letter(1, 1, 4)", x.letter(1, 1, 4), -1);
        check.due("letter(1, 1, -1)", x.letter(1, 1, -1), -1);
        check.due("letter(1, 3, 0)", x.letter(1, 3, 0), -1);
        check.due("letter(4, 0, 0)", x.letter(4, 0, 0), -1);
        check.due("lA before cOte alone", x.reading(0, 1, 5), 59);
    }

    /** Promises 11 and 12. */
    private void bestAndChoice() {
        String book = "word a 0 1; word a 1 1; word a 2 1; word b 0 5; word b 1 4; word b 2 5; pair 1 1 1; bar 2 2; pair 2 0 0;";
        MarkBench x = Check.bench(book, 0, "a b");
        check.due("best()", x.best(), 5);
        check.due("the first of like ways: 0 then 1", x.choice(0), 0);
        check.due("the first of like ways: 0 then 1", x.choice(1), 1);
        check.due("through 1, 0", x.reading(0, 1, 5), 6);
        check.due("through 2, 1", x.reading(0, 2, 5), 5);
        check.due("ways", x.ways(100), 8);
        check.due("choice(2)", x.choice(2), -1);
        check.due("choice(-1)", x.choice(-1), -1);
        check.due("a line of barred ones", Check.book(x, "word a 1 1; word b 2 1; bar 1 2;"), 2);
        Check.line(x, 0, "a b");
        check.due("best() without a way", x.best(), -2);
        check.due("choice() without a way", x.choice(0), -1);
        check.due("through without a way", x.reading(0, 0, 5), -1);
        check.due("ways() without a way", x.ways(0), 0);
        check.due("sure() without a way", x.sure(0, 0), -1);
        check.due("ask() without a way", x.ask(0), -1);
        check.same("text() without a way", Check.text(x, 0), "a b");
        Check.line(x, 0, "b a");
        check.due("the other order is not barred", x.best(), 2);
        x.metre(400);
        Check.line(x, 0, " ");
        check.due("without words, whatever the metre", x.best(), 0);
        check.due("one way", x.ways(100), 1);
        check.due("choice(0) without words", x.choice(0), -1);
        check.due("ask(0) without words", x.ask(0), -1);
        check.due("text(0, 0)", x.text(0, 0), 32);
    }

    /** Promise 13. */
    private void ways() {
        MarkBench x = Check.bench("word a 0 0; word a 1 1; word A 2 3; pair 0 0 99; pair 1 1 2;", 0, "a a");
        // 00: 99, 01: 1, 02: 3, 10: 1, 11: 4, 12: 4, 20: 3, 21: 4, 22: 6
        long[] within = {2, 2, 4, 7, 7, 8};
        for (int gap = 0; gap < within.length; gap++) {
            check.due("ways(" + gap + ")", x.ways(gap), within[gap]);
        }
        check.due("ways(97)", x.ways(97), 8);
        check.due("ways(98)", x.ways(98), 9);
        check.due("ways(100)", x.ways(100), 9);
        check.due("ways(101)", x.ways(101), -1);
        check.due("ways(-1)", x.ways(-1), -1);
        MarkBench edge = Check.bench("word a 0 0; word A 1 99; word b 2 0; pair 1 2 1;", 0, "a b");
        check.due("one below the edge", edge.ways(99), 1);
        check.due("just at the edge", edge.ways(100), 2);
        edge = Check.bench("word a 0 0; word A 1 99; word b 2 0; pair 2 1 2;", 0, "b a");
        check.due("just beyond the edge", edge.ways(100), 1);
        x.ask(100);
        x.metre(3);
        check.due("ways(0) by 3", x.ways(0), 2);
        check.due("ways(1) by 3", x.ways(1), 4);
        x.metre(5);
        check.due("ways(0) by 5", x.ways(0), 0);
        check.due("another gap without a way", x.ways(101), -1);
    }

    /** Promises 14 and 15. */
    private void sureAndText() {
        MarkBench x = Check.bench("word ab 0 5; word aB 1 0; word aB 2 2; word Ab 3 9; word c 0 0;", 0, "  ab =ab C c");
        check.due("sure(0, 0)", x.sure(0, 0), 1);
        check.due("spelled alike, of two kinds", x.sure(0, 4), 1);
        check.due("sure(0, 5)", x.sure(0, 5), 0);
        check.due("sure(1, 100)", x.sure(1, 100), 1);
        check.due("sure(2, 100)", x.sure(2, 100), 1);
        check.due("sure(0, 101)", x.sure(0, 101), -1);
        check.due("sure(0, -1)", x.sure(0, -1), -1);
        check.due("sure(4, 0)", x.sure(4, 0), -1);
        check.due("sure(-1, 0)", x.sure(-1, 0), -1);
        check.same("text(0, .)", Check.text(x, 0), "  aB =ab C c");
        check.same("text(4, .)", Check.text(x, 4), "  aB =ab C c");
        check.same("text(5, .)", Check.text(x, 5), "  ab =ab C c");
        check.due("text(0, 12)", x.text(0, 12), -1);
        check.due("text(0, -1)", x.text(0, -1), -1);
        check.due("text(101, 0)", x.text(101, 0), -1);
        check.due("text(-1, 0)", x.text(-1, 0), -1);
        x.metre(400);
        check.same("as it stands without a way", Check.text(x, 0), "  ab =ab C c");
    }

    /** Promise 16. */
    private void settle() {
        MarkBench x = Check.bench("word a 0 2; word A 1 1; name n; word b 0 1 since 5;", 0, "a a n b");
        check.due("settle(4, 0)", x.settle(4, 0), -1);
        check.due("settle(-1, 0)", x.settle(-1, 0), -1);
        check.due("settle(0, 2)", x.settle(0, 2), -1);
        check.due("settle(0, -1)", x.settle(0, -1), -1);
        check.due("a name is no word of the book", x.settle(2, 0), -1);
        check.due("nor one left alone", x.settle(3, 0), -1);
        check.due("nothing is done", x.about(8), 0);
        check.due("settle(0, 0)", x.settle(0, 0), 0);
        check.due("alone", x.readings(0), 1);
        check.same("as it was settled", Check.spelling(x, 0, 0), "a");
        check.due("cost of it", x.reading(0, 0, 1), 1);
        check.due("cost of it in the other word", x.reading(1, 0, 1), 1);
        check.due("as told", x.entry(0, 1), 2);
        check.due("how often", x.entry(0, 2), 1);
        check.due("choice of the other", x.choice(1), 0);
        for (int k = 1; k < 60; k++) {
            check.due("settle(0, 0) again", x.settle(0, 0), k);
        }
        check.due("the 61st", x.settle(0, 0), -1);
        check.due("sixty times", x.entry(0, 2), 60);
        check.due("0 at least", x.reading(0, 0, 1), 0);
        check.due("back(0)", x.back(0), true);
        check.due("sixty with those taken back", x.settle(1, 0), -1);
        check.due("59 are learnt", x.entry(0, 2), 59);
        check.due("still 0", x.reading(0, 0, 1), 0);
    }

    /** Promise 17. */
    private void back() {
        MarkBench x = Check.bench("word a 0 9; word A 1 9;", 0, "a a");
        check.due("back(0) of none", x.back(0), false);
        check.due("back(-1)", x.back(-1), false);
        check.due("settle(0, 1)", x.settle(0, 1), 0);
        check.due("settle(0, 0)", x.settle(0, 0), 1);
        check.due("settle(1, 1)", x.settle(1, 1), 2);
        check.due("back(3)", x.back(3), false);
        check.due("back(0)", x.back(0), true);
        check.due("the later one stands", x.readings(0), 1);
        check.due("cost", x.reading(0, 0, 1), 7);
        check.due("back(1)", x.back(1), true);
        check.due("all again", x.readings(0), 2);
        check.due("cost", x.reading(0, 1, 1), 8);
        check.due("the other word is settled still", x.readings(1), 1);
        check.due("back(1) again", x.back(1), false);
        check.due("nothing more is unlearnt", x.entry(1, 2), 1);
        check.due("settle(0, 0)", x.settle(0, 0), 3);
        check.same("another one now", Check.spelling(x, 0, 0), "a");
        check.due("about(8)", x.about(8), 4);
    }

    /** Promises 16 and 17 over lines and books. */
    private void hands() {
        MarkBench x = Check.bench("word a 0 9; word A 1 9;", 0, "a a");
        x.settle(0, 0);
        x.settle(1, 1);
        Check.line(x, 0, "a a");
        check.due("all readings in another line", x.readings(0) + x.readings(1), 4);
        check.due("both are learnt", x.reading(0, 0, 1) + x.reading(0, 1, 1), 16);
        check.due("settle(0, 1)", x.settle(0, 1), 2);
        check.due("back(0)", x.back(0), true);
        check.due("a hand of another line leaves this one", x.readings(0), 1);
        check.due("cost by this hand", x.reading(0, 0, 1), 7);
        check.due("cost unlearnt", x.reading(1, 0, 1), 9);
        check.due("a bad book", Check.book(x, "word"), -1);
        check.due("back(1) still", x.back(1), true);
        check.due("a book", Check.book(x, "word a 0 9; word A 1 9;"), 2);
        check.due("no hands", x.about(8), 0);
        check.due("back(2)", x.back(2), false);
        check.due("nothing learnt", x.entry(0, 2) + x.entry(1, 2), 0);
        Check.line(x, 0, "a");
        check.due("hands begin at 0", x.settle(0, 1), 0);
        check.due("none of them is taken back yet", x.back(0), true);
        check.due("settle(0, 0)", x.settle(0, 0), 1);
        for (int k = 0; k < 3; k++) {
            Check.book(x, "word a 0 9; word A 1 9;");
            check.due("nothing is learnt in any later book", x.entry(0, 2) + x.entry(1, 2), 0);
        }
    }

    /** Promise 18. */
    private void ask() {
        // each of the first three decides over the others by its pairs, the last stands by itself
        String book = "word a 0 1; word A 1 2; word b 2 1; word B 3 2; word c 4 1; word C 5 2; word e 6 1; word E 6 2;"
                + " pair 1 2 50; pair 0 3 50; pair 2 5 50; pair 3 4 50;";
        MarkBench x = Check.bench(book, 0, "a b c e");
        check.due("all are sure", x.ask(0), -1);
        check.due("by 1 the last alone is not", x.ask(1), 3);
        check.due("by 3 each of the first three decides the others", x.ask(3), 0);
        check.due("by 51 the first decides the second alone", x.ask(51), 0);
        check.due("by 100", x.ask(100), 0);
        check.due("ask(101)", x.ask(101), -1);
        check.due("ask(-1)", x.ask(-1), -1);
        x.settle(1, 0);
        check.due("what was settled is sure", x.sure(1, 100), 1);
        check.due("then the last by 1", x.ask(1), 3);
        check.due("then the first by 51", x.ask(51), 0);
        x = Check.bench("word a 0 1; word A 1 2; word b 2 1; word B 3 2; word c 4 1; word C 5 2; bar 1 2; bar 2 5;", 0, "a b c");
        check.due("by 1 the middle one alone is not sure", x.sure(0, 1) * 10 + x.sure(1, 1), 10);
        check.due("ask(1)", x.ask(1), 1);
        check.due("by 2 none is sure", x.sure(0, 2) + x.sure(1, 2) + x.sure(2, 2), 0);
        check.due("the middle one decides them all", x.ask(2), 1);
    }

    /** Promise 19. */
    private void entry() {
        MarkBench x = new MarkBench();
        check.due("entry(0, 0) without a book", x.entry(0, 0), -1);
        Check.book(x, "word abc 3 44; word Abcdefghijkl 7 99 since 5; word a 0 0 until 6; word b 1 2 since 7 until 8;");
        int[][] want = {{3, 44, 0, 3, 0, 100000}, {7, 99, 0, 12, 5, 100000}, {0, 0, 0, 1, 0, 6}, {1, 2, 0, 1, 7, 8}};
        for (int k = 0; k < want.length; k++) {
            for (int what = 0; what < 6; what++) {
                check.due("entry(" + k + ", " + what + ")", x.entry(k, what), want[k][what]);
            }
        }
        check.due("entry(4, 0)", x.entry(4, 0), -1);
        check.due("entry(-1, 0)", x.entry(-1, 0), -1);
        check.due("entry(0, 6)", x.entry(0, 6), -1);
        check.due("entry(0, -1)", x.entry(0, -1), -1);
    }

    /** The ends of the numbers, at every place. */
    private void wrongNumbers() {
        MarkBench x = Check.bench(FRENCH, 0, "la cote");
        int[] ends = {LOW, LOW + 1, -178956970, 178956971, HIGH - 1, HIGH};
        for (int n : ends) {
            check.due("end", x.end(n), -1);
            check.due("line", x.line(n), -2);
            check.due("fault", x.fault(n), -1);
            check.due("metre", x.metre(n), false);
            check.due("readings", x.readings(n), -1);
            check.due("reading", x.reading(n, 0, 0), -1);
            check.due("reading", x.reading(0, n, 0), -1);
            check.due("reading", x.reading(0, 0, n), -1);
            check.due("letter", x.letter(n, 0, 0), -1);
            check.due("letter", x.letter(0, n, 0), -1);
            check.due("letter", x.letter(0, 0, n), -1);
            check.due("choice", x.choice(n), -1);
            check.due("ways", x.ways(n), -1);
            check.due("sure", x.sure(n, 0), -1);
            check.due("sure", x.sure(0, n), -1);
            check.due("text", x.text(n, 0), -1);
            check.due("text", x.text(0, n), -1);
            check.due("settle", x.settle(n, 0), -1);
            check.due("settle", x.settle(0, n), -1);
            check.due("back", x.back(n), false);
            check.due("ask", x.ask(n), -1);
            check.due("entry", x.entry(n, 0), -1);
            check.due("entry", x.entry(0, n), -1);
            check.due("about", x.about(n), -1);
        }
        check.due("all stays", x.best(), 15);
        check.due("NONE", MarkBench.NONE, -1);
    }
}
