/** The Terms, part 2: each sentence on lines, readings, ways and gaps at its boundary, below it and above it. */
public final class LinesTest {
    private static final String LETTERS = "abcdefghijklmnopqrstuvwxyz";
    private final Check check = new Check();

    public static void main(String[] args) {
        LinesTest test = new LinesTest();
        test.bytes();
        test.lettersOfAWord();
        test.wordsOfALine();
        test.blanks();
        test.kept();
        test.keptWithNoLetterBehind();
        test.firstByteThatCantBe();
        test.keptOnesReadings();
        test.namesReadings();
        test.inForce();
        test.marksOfTheLine();
        test.bareIsItsBare();
        test.endsAreForLackOfWords();
        test.endsAsLongAsTheWord();
        test.endsKeepMarks();
        test.sameSpellingByAnEarlierEnd();
        test.itselfLast();
        test.untoldBare();
        test.firstTwelveWords();
        test.firstTwelveByEnds();
        test.costByHowOftenSettled();
        test.pairsSideBySide();
        test.pairsInTheirOrder();
        test.bars();
        test.metre();
        test.metreOfAllWords();
        test.bestIsTheLeast();
        test.firstOfLikeWays();
        test.through();
        test.nearByAGap();
        test.gapOfAHundred();
        test.gapOfAHundredByAMetre();
        test.sureIfSpelledAlike();
        test.check.end();
    }

    private static String words(int count) {
        StringBuilder text = new StringBuilder();
        for (int k = 0; k < count; k++) {
            text.append(k == 0 ? "" : " ").append(LETTERS.charAt(k));
        }
        return text.toString();
    }

    private void counts(MarkBench x, int... want) {
        for (int word = 0; word < want.length; word++) {
            check.due("readings(" + word + ")", x.readings(word), want[word]);
        }
        check.due("readings behind the last word", x.readings(want.length), -1);
    }

    /** "A LINE is a text of at most 200 bytes." */
    private void bytes() {
        for (int length = 198; length <= 200; length++) {
            check.goodLine("a" + " ".repeat(length - 2) + "b", 2);
            check.goodLine(" ".repeat(length), 0);
            check.badLine(" ".repeat(length - 1) + "$", length - 1);
            check.badLine(" ".repeat(length - 1) + "=", length);
        }
        for (int length : new int[] {201, 202, 220, 2000}) {
            MarkBench x = new MarkBench();
            check.due("a line of " + length + " bytes", Check.line(x, 0, " ".repeat(length)), -2);
            check.due("the tape stays", x.about(9), length);
            check.due("no fault", x.fault(0), 0);
            x = new MarkBench();
            check.due("a line of " + length + " bytes that can't be", Check.line(x, 0, "$".repeat(length)), -2);
            check.due("no fault", x.fault(0), 0);
        }
        MarkBench x = Check.bench("", 0, "abcdefghijkl" + " ".repeat(176) + "ABCDEFGHIJKL");
        check.due("the last byte", x.text(0, 199), 'L');
        check.due("the first byte", x.text(0, 0), 'a');
    }

    /** "words of letters (12 at most)"; "a 13th letter". */
    private void lettersOfAWord() {
        for (int length = 1; length <= 12; length++) {
            String word = LETTERS.substring(0, length);
            check.goodLine(word, 1);
            check.goodLine("=" + word, 1);
            check.goodLine(" " + word.toUpperCase() + " " + word + " ", 2);
        }
        check.badLine("abcdefghijklm", 12);
        check.badLine("=abcdefghijklm", 13);
        check.badLine(" abcdefghijklmnop", 13);
        check.badLine("a ABCDEFGHIJKLM b", 14);
        check.badLine("abcdefghijkl=", 12);
        check.goodLine("abcdefghijkl abcdefghijkl", 2);
        check.badLine("abcdefghijkl abcdefghijklm", 25);
    }

    /** "14 at most"; "of a 15th word its first". */
    private void wordsOfALine() {
        for (int count = 0; count <= 14; count++) {
            check.goodLine(words(count), count);
            check.goodLine(" " + words(count) + " ", count);
            check.goodLine(words(count).replace(" ", "  ="), count);
        }
        check.badLine(words(15), 28);
        check.badLine(words(16), 28);
        check.badLine(words(14) + "    o", 31);
        check.badLine(words(14) + " op", 28);
        check.badLine(words(14) + " =o", 29);
        check.badLine(words(14) + " abcdefghijklm", 28);
        check.goodLine(words(13) + " nopqrstuvwxy", 14);
        check.badLine(words(13) + " nopqrstuvwxyz", 38);
    }

    /** "parted by blanks (one 32 or more; at the beginning and end, too)". */
    private void blanks() {
        check.goodLine("", 0);
        check.goodLine(" ", 0);
        check.goodLine("a b", 2);
        check.goodLine("a  b", 2);
        check.goodLine("   a   b   ", 2);
        check.goodLine("ab", 1);
        for (int c : new int[] {0, 9, 10, 13, 31, 33, 48, 57, 59, 60, 62, 127, 160, 255}) {
            check.badLine("a" + (char) c + "b", 1);
            check.badLine("a " + (char) c, 2);
            check.badLine((char) c + " a", 0);
        }
    }

    /** "= directly ahead of a word: it is KEPT." */
    private void kept() {
        MarkBench x = Check.bench("word a 1 5; word A 2 6;", 0, "=a a =A A  =a");
        counts(x, 1, 2, 1, 1, 1);
        int[] kinds = {7, 1, 7, 2, 7};
        for (int word = 0; word < kinds.length; word++) {
            check.due("kind of word " + word, x.reading(word, 0, 0), kinds[word]);
        }
        check.same("the = stays in the text", Check.text(x, 100), "=a a =A A  =a");
        Check.line(x, 0, "a");
        check.due("none is kept in the next line", x.reading(0, 0, 0), 1);
        check.badLine("a=b", 1);
        check.badLine("ab =c=d", 5);
    }

    /** "a = with no letter behind: the byte there, or the length". */
    private void keptWithNoLetterBehind() {
        check.badLine("=", 1);
        check.badLine(" =", 2);
        check.badLine("a =", 3);
        check.badLine("= ", 1);
        check.badLine("= a", 1);
        check.badLine("==", 1);
        check.badLine("==a", 1);
        check.badLine("=1", 1);
        check.badLine("a = b", 3);
        check.badLine("=\u00ff", 1);
        check.badLine(words(14) + " =", 29);
        check.badLine(words(14) + " = ", 29);
    }

    /** "the first such byte is told". */
    private void firstByteThatCantBe() {
        check.badLine("$", 0);
        check.badLine("a$b;c", 1);
        check.badLine("a ;$", 2);
        check.badLine("abcdefghijklm $", 12);
        check.badLine("$ abcdefghijklm", 0);
        check.badLine("abcdefghijkl$", 12);
        check.badLine(words(15) + "$", 28);
        check.badLine(words(14) + "$ o", 27);
        check.badLine("= abcdefghijklm", 1);
        check.badLine("abcdefghijklm =", 12);
    }

    /** "of a KEPT one: itself alone, KIND 7, COST 0": words and ends of the book are nothing to it. */
    private void keptOnesReadings() {
        MarkBench x = Check.bench("word ab 1 5; word AB 2 6; end b B 3 1; bare 4 1;", 0, "=ab =Ab =cb =q");
        String[] forms = {"ab", "Ab", "cb", "q"};
        for (int word = 0; word < forms.length; word++) {
            check.due("readings", x.readings(word), 1);
            check.due("kind", x.reading(word, 0, 0), 7);
            check.due("cost", x.reading(word, 0, 1), 0);
            check.due("letters", x.reading(word, 0, 3), forms[word].length());
            check.due("no word of the book", x.reading(word, 0, 4), -1);
            check.same("itself", Check.spelling(x, word, 0), forms[word]);
        }
        check.due("best", x.best(), 0);
    }

    /** "or whose BARE is that of a name: itself alone, KIND 7, COST 0": longer and shorter ones are not. */
    private void namesReadings() {
        MarkBench x = Check.bench("name aBc; word abc 1 5; word ABC 2 6; end bc BC 3 1; bare 4 9;", 0,
                "abc ABC Abc ab abcd bc abd =abc");
        counts(x, 1, 1, 1, 1, 1, 2, 1, 1);
        int[] kinds = {7, 7, 7, 4, 4, 3, 4, 7};
        for (int word = 0; word < kinds.length; word++) {
            check.due("kind of word " + word, x.reading(word, 0, 0), kinds[word]);
            check.due("cost of word " + word, x.reading(word, 0, 1), kinds[word] == 7 ? 0 : kinds[word] == 3 ? 1 : 9);
            check.due("no word of the book " + word, x.reading(word, 0, 4), -1);
        }
        check.same("a name as it stands, not as told", Check.spelling(x, 0, 0), "abc");
        check.same("a name as it stands, not as told", Check.spelling(x, 1, 0), "ABC");
    }

    /** "in force on the DAY (from since on, up to until, that day, too)". */
    private void inForce() {
        MarkBench x = new MarkBench();
        Check.book(x, "word a 1 1 since 10 until 12; word b 1 1 since 10; word c 1 1 until 12; word d 1 1 since 11 until 11;"
                + " word e 1 1 since 12 until 11; word f 1 1;");
        int[] days = {0, 9, 10, 11, 12, 13, 99999, 100000};
        String[] there = {"cf", "cf", "abcf", "abcdf", "abcf", "bf", "bf", "bf"};
        for (int k = 0; k < days.length; k++) {
            Check.line(x, days[k], "a b c d e f");
            for (int word = 0; word < 6; word++) {
                boolean isThere = there[k].indexOf(LETTERS.charAt(word)) >= 0;
                check.due("word " + word + " on day " + days[k], x.reading(word, 0, 4), isThere ? word : -1);
            }
        }
        MarkBench y = Check.bench("word a 1 1 since 100000; word a 2 1 until 0;", 0, "a");
        check.due("until day 0", y.reading(0, 0, 0), 2);
        Check.line(y, 1, "a");
        check.due("on day 1 neither", y.reading(0, 0, 4), -1);
        Check.line(y, 100000, "a");
        check.due("since the last day", y.reading(0, 0, 0), 1);
        counts(y, 1);
    }

    /** "which has each letter MARKED that is so in the LINE". */
    private void marksOfTheLine() {
        MarkBench x = Check.bench("word abc 1 1; word Abc 1 2; word ABc 1 3; word ABC 1 4; word abC 1 5;", 0,
                "abc Abc aBc abC ABc AbC aBC ABC");
        counts(x, 5, 3, 2, 2, 2, 1, 1, 1);
        int[] first = {1, 2, 3, 4, 3, 4, 4, 4};
        int[] last = {5, 4, 4, 5, 4, 4, 4, 4};
        for (int word = 0; word < first.length; word++) {
            check.due("the first of word " + word, x.reading(word, 0, 1), first[word]);
            check.due("the last of word " + word, x.reading(word, x.readings(word) - 1, 1), last[word]);
        }
        x = Check.bench("word abcdefghijkl 1 1; word Abcdefghijkl 1 2; word abcdefghijkL 1 3;", 0,
                "Abcdefghijkl abcdefghijkL abcdeFghijkl");
        check.due("marked at the first letter", x.reading(0, 0, 4), 1);
        check.due("marked at the last letter", x.reading(1, 0, 4), 2);
        check.due("marked where none is", x.reading(2, 0, 4), -1);
    }

    /** "each word of the BOOK whose BARE is its BARE": one letter less, more or another is none. */
    private void bareIsItsBare() {
        MarkBench x = Check.bench("word abc 1 1; word ab 1 2; word abcd 1 3; word bc 1 4; word abd 1 5; word ABC 2 6;", 0, "abc");
        counts(x, 2);
        check.due("the first", x.reading(0, 0, 4), 0);
        check.due("the second", x.reading(0, 1, 4), 5);
        check.due("in the order of the book", x.reading(0, 1, 1), 6);
    }

    /** "if there is none: each end, in order": one word of the book in force is enough. */
    private void endsAreForLackOfWords() {
        MarkBench x = Check.bench("end a A 1 1; end ba BA 2 2; word ba 3 3 since 5 until 5;", 4, "ba bA");
        counts(x, 3, 2);
        Check.line(x, 5, "ba bA");
        counts(x, 1, 2);
        check.due("the word", x.reading(0, 0, 4), 0);
        check.due("an end where the word lacks the mark", x.reading(1, 0, 0), 1);
        Check.line(x, 6, "ba");
        counts(x, 3);
        check.due("the first end", x.reading(0, 0, 0), 1);
        check.due("the second end", x.reading(0, 1, 0), 2);
    }

    /** "whose FORM's BARE its BARE ends with": as long as the word, one less, one more. */
    private void endsAsLongAsTheWord() {
        MarkBench x = Check.bench("end abc aBC 1 1;", 0, "bc abc xabc abcx ABc c abcdefghiabc abd");
        counts(x, 1, 2, 2, 1, 1, 1, 2, 1);
        check.same("all of it", Check.spelling(x, 1, 0), "aBC");
        check.same("behind a letter", Check.spelling(x, 2, 0), "xaBC");
        check.same("behind nine letters", Check.spelling(x, 6, 0), "abcdefghiaBC");
        x = Check.bench("end abcdefghijkl abcdefghijkL 1 1; end l L 2 2;", 0, "abcdefghijkl bcdefghijkl l");
        counts(x, 2, 2, 2);
        check.due("by the end of twelve", x.reading(0, 0, 0), 1);
        check.due("by the end of one", x.reading(1, 0, 0), 2);
        check.due("by the end that is all of it", x.reading(2, 0, 0), 2);
        check.same("its mark", Check.spelling(x, 2, 0), "L");
        x = Check.bench("end AB aB 1 1;", 0, "xab");
        check.same("the first form's marks are nothing", Check.spelling(x, 0, 0), "xaB");
    }

    /** "if that leaves MARKED what is so in the LINE". */
    private void endsKeepMarks() {
        MarkBench x = Check.bench("end ab aB 1 1; end ab Ab 2 2; end ab AB 3 3; bare 4 4;", 0, "xab xaB xAb xAB Xab XaB");
        counts(x, 4, 2, 2, 1, 4, 2);
        String[][] want = {{"xaB", "xAb", "xAB", "xab"}, {"xaB", "xAB"}, {"xAb", "xAB"}, {"xAB"},
            {"XaB", "XAb", "XAB", "Xab"}, {"XaB", "XAB"}};
        int[][] kinds = {{1, 2, 3, 4}, {1, 3}, {2, 3}, {3}, {1, 2, 3, 4}, {1, 3}};
        for (int word = 0; word < want.length; word++) {
            for (int reading = 0; reading < want[word].length; reading++) {
                check.same("spelling", Check.spelling(x, word, reading), want[word][reading]);
                check.due("kind", x.reading(word, reading, 0), kinds[word][reading]);
                check.due("no word of the book", x.reading(word, reading, 4), -1);
            }
        }
    }

    /** "(the same spelling by an earlier one: left out)". */
    private void sameSpellingByAnEarlierEnd() {
        MarkBench x = Check.bench("end b B 1 9; end ab aB 2 1; end ab AB 3 2; end b B 4 0; end b b 5 3; end ab ab 6 0;", 0, "ab xab b aB");
        counts(x, 3, 3, 2, 2);
        int[] kinds = {1, 3, 5};
        for (int reading = 0; reading < kinds.length; reading++) {
            check.due("kind of ab", x.reading(0, reading, 0), kinds[reading]);
            check.due("kind of xab", x.reading(1, reading, 0), kinds[reading]);
        }
        check.due("the earlier one's cost", x.reading(0, 0, 1), 9);
        check.due("itself by an end: its cost", x.reading(0, 2, 1), 3);
        check.due("an end that left no mark is no earlier one", x.reading(3, 1, 0), 3);
    }

    /** "and last itself (left out likewise), with bare's KIND and COST". */
    private void itselfLast() {
        MarkBench x = Check.bench("end b B 1 9; bare 2 3;", 0, "ab a aB");
        counts(x, 2, 1, 1);
        check.due("last itself: kind", x.reading(0, 1, 0), 2);
        check.due("last itself: cost", x.reading(0, 1, 1), 3);
        check.same("last itself", Check.spelling(x, 0, 1), "ab");
        check.due("alone: kind", x.reading(1, 0, 0), 2);
        check.due("left out: kind", x.reading(2, 0, 0), 1);
        check.due("left out: cost", x.reading(2, 0, 1), 9);
        x = Check.bench("end b b 1 9; bare 2 3;", 0, "ab");
        counts(x, 1);
        check.due("left out by an end that changes nothing", x.reading(0, 0, 1), 9);
        x = Check.bench("word ab 1 1; bare 2 3;", 0, "ab");
        counts(x, 1);
        check.due("not beside a word of the book", x.reading(0, 0, 4), 0);
    }

    /** "(0 and 50 if not told)". */
    private void untoldBare() {
        MarkBench x = Check.bench("", 0, "a");
        check.due("kind", x.reading(0, 0, 0), 0);
        check.due("cost", x.reading(0, 0, 1), 50);
        Check.book(x, "bare 3 49;");
        Check.line(x, 0, "a");
        check.due("kind told", x.reading(0, 0, 0), 3);
        check.due("cost told", x.reading(0, 0, 1), 49);
        Check.book(x, "bare 0 0;");
        Check.line(x, 0, "a");
        check.due("cost told as 0", x.reading(0, 0, 1), 0);
        Check.book(x, "");
        Check.line(x, 0, "a");
        check.due("kind, not told in a later book", x.reading(0, 0, 0), 0);
        check.due("cost, not told in a later book", x.reading(0, 0, 1), 50);
        check.due("a bad book with a bare", Check.book(x, "bare 5 5; word"), -1);
        check.due("leaves it untold", x.reading(0, 0, 1), 50);
        Check.line(x, 0, "a");
        check.due("leaves it untold", x.reading(0, 0, 1), 50);
    }

    private static String likeWords(int count) {
        StringBuilder book = new StringBuilder();
        for (int k = 0; k < count; k++) {
            book.append("word ").append(k < 8 ? "a" : "A").append(' ').append(k % 8).append(' ').append(20 - k).append(';');
        }
        return book.toString();
    }

    /** "The first 12 of these count": 11, 12, 13 words. */
    private void firstTwelveWords() {
        for (int count = 1; count <= 16; count++) {
            int most = Math.min(count, 12);
            MarkBench x = Check.bench(likeWords(count), 0, "a b");
            check.due("readings of " + count, x.readings(0), most);
            check.due("the last that counts", x.reading(0, most - 1, 4), most - 1);
            check.due("the one behind", x.reading(0, most, 4), -1);
            check.due("a letter of the one behind", x.letter(0, most, 0), -1);
            check.due("best of those that count", x.best(), 20 - (most - 1) + 50);
            check.due("ways", x.ways(100), most);
            check.due("settled as the one behind", x.settle(0, most), -1);
            check.due("settled as the last", x.settle(0, most - 1), 0);
        }
        MarkBench x = Check.bench(likeWords(16), 0, "A");
        counts(x, 8);
        check.due("the last of the book counts where others do not meet", x.reading(0, 7, 4), 15);
    }

    private static String likeEnds(int count) {
        StringBuilder book = new StringBuilder("bare 7 0;");
        for (int k = 1; k <= count; k++) {
            book.append("end aaaa ");
            for (int bit = 0; bit < 4; bit++) {
                book.append((k >> bit & 1) == 1 ? 'A' : 'a');
            }
            book.append(" 1 ").append(50 + k).append(';');
        }
        return book.toString();
    }

    /** "The first 12 of these count": 10, 11, 12, 13 ends, and itself behind them. */
    private void firstTwelveByEnds() {
        for (int count = 9; count <= 15; count++) {
            MarkBench x = Check.bench(likeEnds(count), 0, "aaaa");
            int most = Math.min(count + 1, 12);
            boolean itself = count + 1 <= 12;
            check.due("readings of " + count, x.readings(0), most);
            check.due("kind of the last", x.reading(0, most - 1, 0), itself ? 7 : 1);
            check.due("cost of the last", x.reading(0, most - 1, 1), itself ? 0 : 50 + most);
            check.due("the one behind", x.reading(0, most, 0), -1);
            check.due("best", x.best(), itself ? 0 : 51);
        }
        MarkBench x = Check.bench(likeEnds(5) + likeEnds(12).substring(9), 0, "aaaa");
        counts(x, 12);
        check.due("those left out do not count", x.reading(0, 5, 1), 56);
        check.due("the twelfth", x.reading(0, 11, 1), 62);
    }

    /** "COST of a book word is less by how often it was SETTLED (0 at least)." */
    private void costByHowOftenSettled() {
        MarkBench x = Check.bench("word a 1 2; word A 2 9; word b 1 0;", 0, "a a b");
        int[] costs = {2, 1, 0, 0, 0};
        for (int times = 0; times < costs.length; times++) {
            check.due("cost of the other word, settled " + times, x.reading(1, 0, 1), costs[times]);
            check.due("cost as told", x.entry(0, 1), 2);
            check.due("how often", x.entry(0, 2), times);
            check.due("cost of another word of the book", x.reading(1, 1, 1), 9);
            check.due("best", x.best(), 2 * costs[times]);
            check.due("settled", x.settle(0, 0), times);
        }
        check.due("0 at least", x.reading(2, 0, 1), 0);
        check.due("settled at 0", x.settle(2, 0), costs.length);
        check.due("0 at least", x.reading(2, 0, 1), 0);
        check.due("how often", x.entry(2, 2), 1);
        check.due("by one time less than five", x.back(0), true);
        check.due("still 0", x.reading(1, 0, 1), 0);
        x.back(1);
        x.back(2);
        check.due("two times: 0", x.reading(1, 0, 1), 0);
        x.back(3);
        check.due("one time: 1", x.reading(1, 0, 1), 1);
        x.back(4);
        check.due("no more: 2", x.reading(1, 0, 1), 2);
    }

    /** "of each pair that is told for the KINDS of two that stand side by side". */
    private void pairsSideBySide() {
        String book = "word a 1 0; word b 2 0; word c 3 0; pair 1 3 50; name n;";
        check.due("one between them", Check.bench(book, 0, "a b c").best(), 0);
        check.due("side by side", Check.bench(book, 0, "b a c").best(), 50);
        check.due("blanks are none between", Check.bench(book, 0, "a   c").best(), 50);
        check.due("each time", Check.bench(book, 0, "a c a c a c").best(), 150);
        check.due("one word", Check.bench(book, 0, "a").best(), 0);
        check.due("a kept one and a name are of kind 7",
                Check.bench("pair 7 7 5; name n;", 0, "n =b n").best(), 10);
        check.due("the first kind with itself", Check.bench("word a 0 1; pair 0 0 7;", 0, "a a a").best(), 17);
        check.due("a pair of 0 is as none", Check.bench("word a 0 1; pair 0 0 0;", 0, "a a").best(), 2);
    }

    /** "(in this order)". */
    private void pairsInTheirOrder() {
        String book = "word a 1 0; word b 2 0; pair 1 2 3; pair 2 1 40;";
        check.due("1 2", Check.bench(book, 0, "a b").best(), 3);
        check.due("2 1", Check.bench(book, 0, "b a").best(), 40);
        check.due("1 2 1", Check.bench(book, 0, "a b a").best(), 43);
        check.due("1 1", Check.bench(book, 0, "a a").best(), 0);
    }

    /** "It is no WAY if a bar is told for two such". */
    private void bars() {
        String book = "word a 1 0; word b 2 0; word A 3 90; bar 1 2; bar 3 3;";
        MarkBench x = Check.bench(book, 0, "a b");
        check.due("the other way round the bar", x.best(), 90);
        check.due("the first reading has none", x.reading(0, 0, 5), -1);
        check.due("ways", x.ways(100), 1);
        check.due("the other order is free", Check.bench(book, 0, "b a").best(), 0);
        check.due("none", Check.bench("word a 1 0; bar 1 1;", 0, "a a").best(), -2);
        check.due("one word alone is free", Check.bench("word a 1 0; bar 1 1;", 0, "a").best(), 0);
        check.due("kinds 7 and 7", Check.bench("bar 7 7;", 0, "=a =b").best(), -2);
        check.due("kinds 0 and 0", Check.bench("bar 0 0;", 0, "a b").best(), -2);
        check.due("the last two of fourteen", Check.bench("word m 1 1; word n 2 1; bar 1 2;", 0, words(14)).best(), -2);
        check.due("the first two of fourteen", Check.bench("word a 1 1; word b 2 1; bar 1 2;", 0, words(14)).best(), -2);
    }

    /** "or if there is a METRE (0 .. 400; none at first), and the WEIGHTS of its READINGS together are not it." */
    private void metre() {
        MarkBench x = Check.bench("word e 1 1; word E 1 9;", 0, "e xyz e");
        check.due("none at first", x.about(7), -1);
        check.due("best without", x.best(), 52);
        int[] want = {-2, -2, 52, 60, 68, -2, -2};
        for (int weight = 0; weight < want.length; weight++) {
            x.metre(weight);
            check.due("best by " + weight, x.best(), want[weight]);
        }
        x.metre(400);
        check.due("best by 400", x.best(), -2);
        x.metre(-1);
        check.due("best without again", x.best(), 52);
        x = Check.bench("", 0, "xyz");
        x.metre(0);
        check.due("best by 0 of no vowel", x.best(), 50);
        x.metre(1);
        check.due("best by 1 of no vowel", x.best(), -2);
    }

    /** The heaviest line has 336: one less and one more are no way. */
    private void metreOfAllWords() {
        MarkBench x = Check.bench("", 0, "AEIOUAEIOUAE ".repeat(14));
        for (int weight = 335; weight <= 337; weight++) {
            x.metre(weight);
            check.due("best by " + weight, x.best(), weight == 336 ? 700 : -2);
            check.due("ways by " + weight, x.ways(0), weight == 336 ? 1 : 0);
        }
        x = Check.bench("end a A 0 51;", 0, "aeiouaeiouaa ".repeat(14));
        int[] want = {-2, 700, 701, 713, 714, -2};
        int[] weights = {167, 168, 169, 181, 182, 183};
        for (int k = 0; k < want.length; k++) {
            x.metre(weights[k]);
            check.due("best by " + weights[k], x.best(), want[k]);
        }
    }

    /** "BEST is the least cost". */
    private void bestIsTheLeast() {
        MarkBench x = Check.bench("word a 1 5; word a 2 4; word a 3 6; word b 1 0; pair 2 1 1; pair 3 1 0;", 0, "a b");
        check.due("4 and 1 are as dear as 5", x.best(), 5);
        x = Check.bench("word a 1 5; word a 2 4; word b 1 0; pair 2 1 2;", 0, "a b");
        check.due("4 and 2 are dearer than 5", x.best(), 5);
        check.due("so the first", x.choice(0), 0);
        x = Check.bench("word a 1 5; word a 2 3; word b 1 0; pair 2 1 1;", 0, "a b");
        check.due("3 and 1 are cheaper than 5", x.best(), 4);
        check.due("so the second", x.choice(0), 1);
    }

    /** "of WAYS that cost as little the first, by the least number of READING word by word". */
    private void firstOfLikeWays() {
        MarkBench x = Check.bench("word a 1 5; word a 2 4; word b 1 0; pair 2 1 1;", 0, "a b");
        check.due("alike: the first", x.choice(0), 0);
        String crossed = "word a 1 1; word A 2 1; word b 3 1; word B 4 1; bar 1 3; bar 2 4;";
        x = Check.bench(crossed, 0, "a b");
        check.due("the first word's least number", x.choice(0), 0);
        check.due("though the second's is more", x.choice(1), 1);
        x = Check.bench("word a 1 1; word A 2 1; word b 3 1; word B 4 1; word c 5 1; word C 6 1; bar 1 3; bar 3 5;", 0, "a b c");
        check.due("word 0 of three", x.choice(0), 0);
        check.due("word 1 of three", x.choice(1), 1);
        check.due("word 2 of three", x.choice(2), 0);
        x = Check.bench("word a 1 1; word A 1 1;", 0, "a a a");
        x.metre(4);
        check.due("by the metre: word 0", x.choice(0), 0);
        check.due("by the metre: word 1", x.choice(1), 0);
        check.due("by the metre: word 2", x.choice(2), 1);
    }

    /** "THROUGH of a READING is the least cost of a WAY that takes it." */
    private void through() {
        MarkBench x = Check.bench("word a 1 1; word A 2 3; word b 3 1; word B 4 9; pair 1 3 20; bar 2 3; word c 5 1;", 0, "a b c");
        int[][] want = {{11, 13}, {23, 11}, {11}};
        for (int word = 0; word < want.length; word++) {
            for (int reading = 0; reading < want[word].length; reading++) {
                check.due("through of " + word + ", " + reading, x.reading(word, reading, 5), want[word][reading]);
            }
        }
        x.metre(2);
        check.due("by the metre", x.reading(0, 1, 5), 13);
        check.due("none by the metre", x.reading(0, 0, 5), -1);
        x.metre(3);
        check.due("no way at all", x.reading(2, 0, 5), -1);
    }

    /** "NEAR by a GAP: READINGS whose THROUGH is BEST + GAP at most." */
    private void nearByAGap() {
        for (int apart = 0; apart <= 99; apart += apart < 3 || apart > 96 ? 1 : 31) {
            MarkBench x = Check.bench("word a 1 0; word A 2 " + apart + ";", 0, "a");
            if (apart > 0) {
                check.due("sure one below " + apart, x.sure(0, apart - 1), 1);
                check.due("ways one below " + apart, x.ways(apart - 1), 1);
            }
            check.due("sure at " + apart, x.sure(0, apart), 0);
            check.due("sure one above " + apart, x.sure(0, apart + 1), 0);
            check.due("ways at " + apart, x.ways(apart), 2);
            check.due("asked at " + apart, x.ask(apart), 0);
        }
    }

    /** "a GAP (0 .. 100)": THROUGH may be as far as 100, or one further. */
    private void gapOfAHundred() {
        for (int apart = 99; apart <= 101; apart++) {
            String book = "word a 1 0; word A 2 99; word b 3 0; pair 2 3 " + (apart - 99) + ";";
            MarkBench x = Check.bench(book, 0, "a b");
            check.due("through", x.reading(0, 1, 5), apart);
            check.due("sure by 100", x.sure(0, 100), apart <= 100 ? 0 : 1);
            check.due("sure by 99", x.sure(0, 99), apart <= 99 ? 0 : 1);
            check.due("ways by 100", x.ways(100), apart <= 100 ? 2 : 1);
            check.due("ask by 100", x.ask(100), apart <= 100 ? 0 : -1);
            check.due("ask by 99", x.ask(99), apart <= 99 ? 0 : -1);
            for (int gap : new int[] {-1, 101}) {
                check.due("sure by no gap", x.sure(0, gap), -1);
                check.due("ways by no gap", x.ways(gap), -1);
                check.due("ask by no gap", x.ask(gap), -1);
                check.due("text by no gap", x.text(gap, 0), -1);
            }
        }
    }

    /** "a GAP (0 .. 100)", with a METRE that leaves ways of many weights up to each word. */
    private void gapOfAHundredByAMetre() {
        for (int apart = 99; apart <= 102; apart++) {
            for (int ahead = 0; ahead <= 3; ahead++) {
                // by the metre one of the two is marked; the first of them so costs 99 more, and by its pair up to 3
                String book = "word e 1 0; word E 2 99; word i 3 0; word I 4 0; pair 2 3 " + (apart - 99) + "; word xyz 6 0;";
                MarkBench x = Check.bench(book, 0, "xyz ".repeat(ahead) + "e i");
                x.metre(3);
                check.due("best", x.best(), 0);
                check.due("through", x.reading(ahead, 1, 5), apart);
                check.due("ways by 98", x.ways(98), 1);
                check.due("ways by 99", x.ways(99), apart <= 99 ? 2 : 1);
                check.due("ways by 100", x.ways(100), apart <= 100 ? 2 : 1);
                check.due("sure by 100", x.sure(ahead, 100), apart <= 100 ? 0 : 1);
                check.due("sure by 100, the other", x.sure(ahead + 1, 100), apart <= 100 ? 0 : 1);
            }
        }
        // unmarked the first word is 99 dearer, and another one must be marked for it then
        for (int cost = 0; cost <= 3; cost++) {
            String book = "word ee 1 99; word Ee 1 0; word EE 1 0; word i 3 0; word I 3 " + cost + ";";
            MarkBench x = Check.bench(book, 0, "ee i i");
            long[] within = {1, cost <= 1 ? 3 : 1, cost == 0 ? 4 : 3, 3, 1};
            for (int weight = 4; weight <= 8; weight++) {
                x.metre(weight);
                check.due("ways(100) by " + weight, x.ways(100), within[weight - 4]);
            }
        }
    }

    /** "A word is SURE by a GAP if all its NEAR READINGS are spelled alike." */
    private void sureIfSpelledAlike() {
        MarkBench x = Check.bench("word ab 1 0; word ab 2 1; word aB 3 2; word ab 4 3;", 0, "ab");
        int[] want = {1, 1, 0, 0, 0};
        for (int gap = 0; gap < want.length; gap++) {
            check.due("sure by " + gap, x.sure(0, gap), want[gap]);
        }
        x = Check.bench("word ab 1 5; word aB 2 0; word aB 3 1;", 0, "ab");
        check.due("two kinds, one spelling", x.sure(0, 4), 1);
        check.due("the third one too", x.sure(0, 5), 0);
        x = Check.bench("word ab 1 0; word aB 2 0; word b 3 0; bar 2 3;", 0, "ab b");
        check.due("what no way takes is not near", x.sure(0, 100), 1);
        x = Check.bench("word abcdefghijkl 1 0; word abcdefghijkL 2 0;", 0, "abcdefghijkl");
        check.due("the last letter tells them apart", x.sure(0, 0), 0);
        x = Check.bench("word Abcdefghijkl 1 0; word abcdefghijkl 2 0;", 0, "abcdefghijkl");
        check.due("the first letter tells them apart", x.sure(0, 0), 0);
    }
}
