/** The Terms, part 3: each sentence on what is settled, taken back and asked first, at its boundary and beside it. */
public final class HandsTest {
    private static final String TWO = "word a 0 9; word A 1 9;";
    private final Check check = new Check();

    public static void main(String[] args) {
        HandsTest test = new HandsTest();
        test.aWordOfTheBookAlone();
        test.learntAndReadAlone();
        test.sixtyHands();
        test.keptInOrder();
        test.takenBackOnce();
        test.learntNoMore();
        test.allReadingsAgain();
        test.latestThatStands();
        test.ofTheLineThatIsThere();
        test.anotherLine();
        test.aLineThatCantBe();
        test.anotherBook();
        test.aBookWithAFault();
        test.moreThanTwelve();
        test.notSureAlone();
        test.mostWords();
        test.ofLikeOnesTheFirst();
        test.asReadByTheFirstBestWay();
        test.check.end();
    }

    private void costs(MarkBench x, String when, int first, int second) {
        check.due(when + ": entry 0 settled", x.entry(0, 2), 9 - first);
        check.due(when + ": entry 1 settled", x.entry(1, 2), 9 - second);
    }

    /** "SETTLED is a word of the LINE as a READING that is a word of the BOOK." */
    private void aWordOfTheBookAlone() {
        MarkBench x = Check.bench("word a 0 2; word a 1 3; name n; end e E 2 2; word b 0 1 since 5;", 4, "a =a n e b q");
        check.due("as the first word", x.settle(0, 0), 0);
        check.due("a kept one", x.settle(1, 0), -1);
        check.due("a name", x.settle(2, 0), -1);
        check.due("by an end", x.settle(3, 0), -1);
        check.due("itself behind an end", x.settle(3, 1), -1);
        check.due("a word not in force", x.settle(4, 0), -1);
        check.due("left alone", x.settle(5, 0), -1);
        check.due("hands", x.about(8), 1);
        check.due("the next hand", x.settle(0, 0), 1);
    }

    /** "it is learnt (as one time more for that word of the BOOK), and the word of the LINE has this READING alone". */
    private void learntAndReadAlone() {
        MarkBench x = Check.bench("word a 0 9; word A 1 8; word a 2 7; word b 3 6;", 0, "a a b");
        check.due("settled", x.settle(0, 1), 0);
        int[] times = {0, 1, 0, 0};
        for (int k = 0; k < times.length; k++) {
            check.due("settled of " + k, x.entry(k, 2), times[k]);
        }
        check.due("alone", x.readings(0), 1);
        check.same("this one", Check.spelling(x, 0, 0), "A");
        check.due("its kind", x.reading(0, 0, 0), 1);
        check.due("its cost", x.reading(0, 0, 1), 7);
        check.due("its weight", x.reading(0, 0, 2), 2);
        check.due("its word of the book", x.reading(0, 0, 4), 1);
        check.due("through", x.reading(0, 0, 5), 7 + 7 + 6);
        check.due("no second one", x.reading(0, 1, 0), -1);
        check.due("its choice", x.choice(0), 0);
        check.due("sure", x.sure(0, 100), 1);
        check.due("the like word has all", x.readings(1), 3);
        check.due("the like word's cost", x.reading(1, 1, 1), 7);
        check.due("ways", x.ways(100), 3);
        check.same("the text", Check.text(x, 100), "A a b");
    }

    /** "HANDS, 60 at most": 59, 60, 61, and those taken back count. */
    private void sixtyHands() {
        MarkBench x = Check.bench("word a 0 99;", 0, "a b");
        for (int hand = 0; hand < 60; hand++) {
            check.due("settle " + hand, x.settle(0, 0), hand);
            check.due("hands", x.about(8), hand + 1);
            if (hand == 30) {
                check.due("one is taken back on the way", x.back(30), true);
            }
        }
        check.due("the 61st", x.settle(0, 0), -1);
        check.due("it is not learnt", x.entry(0, 2), 59);
        check.due("nor kept", x.about(8), 60);
        check.due("cost", x.reading(0, 0, 1), 40);
        check.due("the 60th is taken back", x.back(59), true);
        check.due("there is no 61st", x.back(60), false);
        check.due("no room by that", x.settle(0, 0), -1);
        check.due("cost", x.reading(0, 0, 1), 41);
        Check.line(x, 1, "a");
        check.due("no room in another line", x.settle(0, 0), -1);
        check.due("the first is taken back from there", x.back(0), true);
        check.due("cost", x.reading(0, 0, 1), 42);
        Check.book(x, "word a 0 99;");
        Check.line(x, 1, "a");
        check.due("room in another book", x.settle(0, 0), 0);
    }

    /** "are kept in order": numbers go on from 0, whatever is refused or taken back between. */
    private void keptInOrder() {
        MarkBench x = Check.bench(TWO, 0, "a a");
        check.due("the first", x.settle(0, 0), 0);
        check.due("refused", x.settle(0, 1), -1);
        check.due("the second", x.settle(1, 1), 1);
        check.due("the second is taken back", x.back(1), true);
        check.due("the third", x.settle(1, 0), 2);
        Check.line(x, 0, "a");
        check.due("the fourth, in another line", x.settle(0, 1), 3);
        costs(x, "then", 7, 8);
        check.due("the third's word of the book", x.back(2), true);
        costs(x, "then", 8, 8);
        check.due("the first's word of the book", x.back(0), true);
        costs(x, "then", 9, 8);
        check.due("the fourth's word of the book", x.back(3), true);
        costs(x, "then", 9, 9);
    }

    /** "each can be TAKEN BACK once". */
    private void takenBackOnce() {
        MarkBench x = Check.bench(TWO, 0, "a a");
        x.settle(0, 0);
        x.settle(1, 0);
        check.due("once", x.back(0), true);
        check.due("twice", x.back(0), false);
        check.due("the other is learnt still", x.entry(0, 2), 1);
        check.due("settled anew", x.settle(0, 0), 2);
        check.due("the first is taken back still", x.back(0), false);
        check.due("the new one", x.back(2), true);
        check.due("twice", x.back(2), false);
        check.due("learnt", x.entry(0, 2), 1);
        check.due("hands", x.about(8), 3);
    }

    /** "what was learnt by it is learnt no more". */
    private void learntNoMore() {
        MarkBench x = Check.bench(TWO, 0, "a a a");
        x.settle(0, 1);
        x.settle(1, 0);
        x.settle(2, 1);
        costs(x, "of three", 8, 7);
        check.due("cost", x.reading(2, 0, 1), 7);
        check.due("best", x.best(), 22);
        x.back(2);
        costs(x, "of two", 8, 8);
        check.due("cost", x.reading(2, 1, 1), 8);
        check.due("best", x.best(), 24);
        x.back(0);
        costs(x, "of one", 8, 9);
        check.due("best", x.best(), 24);
        x.back(1);
        costs(x, "of none", 9, 9);
        check.due("best", x.best(), 27);
    }

    /** "if it is of the LINE that is there, the word has all its READINGS again". */
    private void allReadingsAgain() {
        MarkBench x = Check.bench(TWO, 0, "a a");
        x.settle(0, 1);
        x.settle(1, 0);
        check.due("one", x.readings(0) * 10 + x.readings(1), 11);
        x.back(0);
        check.due("the first has all again", x.readings(0), 2);
        check.due("the second has not", x.readings(1), 1);
        check.same("in their order", Check.spelling(x, 0, 0) + Check.spelling(x, 0, 1), "aA");
        x.back(1);
        check.due("both have", x.readings(1), 2);
        check.due("ways", x.ways(100), 4);
    }

    /** "(but for what other HANDS say: the latest that stands counts)". */
    private void latestThatStands() {
        MarkBench x = Check.bench(TWO, 0, "a");
        check.due("hand 0: a", x.settle(0, 0), 0);
        x.back(0);
        check.due("hand 1: A", x.settle(0, 1), 1);
        check.due("hand 2: A again", x.settle(0, 0), 2);
        x.back(2);
        check.same("hand 1 stands", Check.spelling(x, 0, 0), "A");
        check.due("alone", x.readings(0), 1);
        check.due("hand 3", x.settle(0, 0), 3);
        x.back(1);
        check.same("hand 3 stands", Check.spelling(x, 0, 0), "A");
        check.due("alone", x.readings(0), 1);
        x.back(3);
        check.due("none stands", x.readings(0), 2);
        costs(x, "then", 9, 9);
    }

    /** "if it is of the LINE that is there": a hand of a line that is gone unlearns alone. */
    private void ofTheLineThatIsThere() {
        MarkBench x = Check.bench(TWO, 0, "a a");
        x.settle(0, 0);
        x.settle(1, 1);
        Check.line(x, 0, "a a");
        check.due("this line's own hand", x.settle(0, 1), 2);
        check.due("taken back of the line that is gone", x.back(0), true);
        check.due("leaves this one's", x.readings(0), 1);
        check.same("as it was settled here", Check.spelling(x, 0, 0), "A");
        check.due("taken back of the line that is gone", x.back(1), true);
        check.due("leaves this one's", x.readings(1), 2);
        costs(x, "then", 9, 8);
        check.due("its own", x.back(2), true);
        check.due("all again", x.readings(0), 2);
    }

    /** "Another LINE begins without HANDS on it (what was learnt stays)", the same text and day, too. */
    private void anotherLine() {
        MarkBench x = Check.bench(TWO, 3, "a a");
        x.settle(0, 0);
        x.settle(1, 0);
        check.due("the same line", Check.line(x, 3, "a a"), 2);
        check.due("without hands", x.readings(0) * 10 + x.readings(1), 22);
        costs(x, "learnt", 7, 9);
        check.due("hands are kept", x.about(8), 2);
        check.due("best", x.best(), 14);
        check.due("a line without words", Check.line(x, 3, ""), 0);
        check.due("hands are kept", x.about(8), 2);
        Check.line(x, 3, "a");
        check.due("back in a third line", x.back(1), true);
        check.due("cost", x.reading(0, 0, 1), 8);
        check.due("all readings", x.readings(0), 2);
    }

    /** "NONE: it can't be (all stays)": the hands on the line, too. */
    private void aLineThatCantBe() {
        MarkBench x = Check.bench(TWO, 3, "a a");
        x.settle(0, 1);
        check.due("a line that can't be", Check.line(x, 4, "a $"), -1);
        check.due("the hand stays on the line", x.readings(0), 1);
        check.due("no such day", x.line(100001), -2);
        check.due("the hand stays on the line", x.readings(0), 1);
        check.due("too long", Check.line(x, 4, " ".repeat(201)), -2);
        check.due("the hand stays on the line", x.readings(0), 1);
        check.due("back", x.back(0), true);
        check.due("it was of this line", x.readings(0), 2);
    }

    /** "another BOOK begins without any HANDS, and nothing is learnt", the same text, too. */
    private void anotherBook() {
        MarkBench x = Check.bench(TWO, 0, "a a");
        x.settle(0, 0);
        x.settle(1, 1);
        x.back(0);
        check.due("the same book", Check.book(x, TWO), 2);
        check.due("hands", x.about(8), 0);
        costs(x, "nothing", 9, 9);
        check.due("back(0)", x.back(0), false);
        check.due("back(1)", x.back(1), false);
        Check.line(x, 0, "a a");
        check.due("all readings", x.readings(0) * 10 + x.readings(1), 22);
        check.due("cost", x.reading(0, 0, 1), 9);
        check.due("numbers begin anew", x.settle(1, 1), 0);
        check.due("it stands", x.readings(1), 1);
        check.due("it is learnt", x.entry(1, 2), 1);
        check.due("and it is not taken back yet", x.back(0), true);
        check.due("twice", x.back(0), false);
        Check.book(x, TWO);
        Check.book(x, TWO);
        costs(x, "nothing", 9, 9);
    }

    /** "NONE: a FAULT (all stays)": hands and what is learnt, too. */
    private void aBookWithAFault() {
        MarkBench x = Check.bench(TWO, 0, "a a");
        x.settle(0, 1);
        check.due("a book with a fault", Check.book(x, "word b 1 1; word"), -1);
        check.due("words", x.about(0), 2);
        costs(x, "still", 9, 8);
        check.due("the hand stays on the line", x.readings(0), 1);
        check.due("hands", x.about(8), 1);
        check.due("settled", x.settle(1, 0), 1);
        check.due("back", x.back(0), true);
        check.due("all again", x.readings(0), 2);
    }

    /** A word settled as its 12th reading: taken back, it has twelve again. */
    private void moreThanTwelve() {
        StringBuilder book = new StringBuilder();
        for (int k = 0; k < 13; k++) {
            book.append("word ").append(k < 8 ? "a" : "A").append(' ').append(k % 8).append(" 50;");
        }
        MarkBench x = Check.bench(book.toString(), 0, "a a");
        check.due("the 13th", x.settle(0, 12), -1);
        check.due("the 12th", x.settle(0, 11), 0);
        check.due("alone", x.readings(0), 1);
        check.due("it is the book's 12th", x.reading(0, 0, 4), 11);
        check.due("its cost in the other", x.reading(1, 11, 1), 49);
        check.due("back", x.back(0), true);
        check.due("twelve again", x.readings(0), 12);
    }

    /** "ASKED FIRST by a GAP is the word that is not SURE". */
    private void notSureAlone() {
        MarkBench x = Check.bench("word a 0 0; word A 0 5; word b 1 0; word c 2 0; word C 2 7;", 0, "b a b c");
        int[] want = {-1, 1, 1, 1, 1};
        int[] gaps = {4, 5, 6, 7, 100};
        for (int k = 0; k < gaps.length; k++) {
            check.due("ask(" + gaps[k] + ")", x.ask(gaps[k]), want[k]);
        }
        x.settle(1, 1);
        check.due("the settled one is sure", x.ask(6), -1);
        check.due("the other one by 7", x.ask(7), 3);
        x.settle(3, 0);
        check.due("all are sure", x.ask(100), -1);
    }

    /** "of which it holds that most words would be SURE if it were read as it is by the first BEST WAY alone". */
    private void mostWords() {
        // the last word decides over the one ahead of it, the first over none
        String book = "word a 0 0; word A 0 1; word b 1 0; word B 2 0; word c 3 0; word C 4 0; bar 1 4; bar 2 3;";
        MarkBench x = Check.bench(book, 0, "a b c");
        check.due("by 0 the first is sure", x.sure(0, 0), 1);
        check.due("by 0 the second", x.ask(0), 1);
        check.due("by 1 the first is not sure", x.sure(0, 1), 0);
        check.due("by 1 the second, too: it decides two", x.ask(1), 1);
        x = Check.bench("word b 1 0; word B 2 0; word c 3 0; word C 4 0; bar 1 4; bar 2 3; word a 0 0; word A 0 1;", 0, "b c a");
        check.due("by 1 the first: it decides two", x.ask(1), 0);
        // a middle one that decides over both its neighbours, which decide over it alone
        x = Check.bench("word a 0 0; word A 1 0; word b 2 0; word B 3 0; word c 4 0; word C 5 0; pair 1 2 5; pair 2 5 5;", 0, "a b c");
        check.due("sure by 0", x.sure(0, 0) + x.sure(1, 0) + x.sure(2, 0), 0);
        check.due("the middle one by 0", x.ask(0), 1);
        check.due("by 10 it decides over none", x.ask(10), 0);
    }

    /** "(of like ones the first)". */
    private void ofLikeOnesTheFirst() {
        MarkBench x = Check.bench(TWO, 0, "b a b a a");
        check.due("the first of three", x.ask(0), 1);
        x.settle(1, 0);
        check.due("by 0 the other is dearer now", x.ask(0), -1);
        check.due("by 1 the first of two", x.ask(1), 3);
        x.settle(3, 0);
        check.due("by 2 the last", x.ask(2), 4);
        check.due("by 1 none", x.ask(1), -1);
    }

    /** "read as it is by the first BEST WAY": not as by a way that costs as little but comes later. */
    private void asReadByTheFirstBestWay() {
        // by its first reading word 0 leaves word 1 open, by its second it would decide over it
        String book = "word a 0 0; word A 1 0; word b 2 0; word B 3 0; word c 4 0; word C 5 0; bar 1 3; bar 3 5;";
        MarkBench x = Check.bench(book, 0, "a b c");
        check.due("the first best way", x.choice(0) * 100 + x.choice(1) * 10 + x.choice(2), 0);
        check.due("nothing is sure", x.sure(0, 0) + x.sure(1, 0) + x.sure(2, 0), 0);
        check.due("each decides itself alone by its first reading", x.ask(0), 0);
        x = Check.bench("word A 1 0; word a 0 0; word b 2 0; word B 3 0; bar 1 3;", 0, "b a b");
        check.due("the first best way", x.choice(0) * 100 + x.choice(1) * 10 + x.choice(2), 0);
        check.due("the middle one as A decides the last", x.ask(0), 1);
    }
}
