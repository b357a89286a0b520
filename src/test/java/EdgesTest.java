/** Promises 1 to 20: each sentence that names a boundary case, at the boundary, below it and above it. */
public final class EdgesTest {
    private static final int LOW = Integer.MIN_VALUE;
    private static final int HIGH = Integer.MAX_VALUE;
    /** By its line three words, of two, three and one reading; their ways weigh 3 (15), 4 (20, 29) and 5 (29). */
    private static final String BOOK = "word la 3 5; word lA 4 9; word cote 1 10; word cOte 2 20; word cotE 1 15;"
            + " pair 3 1 0; pair 3 2 4; bar 4 1; name paris; end er Er 5 30; bare 6 40;";
    private static final String LINE = " la cote =x ";
    private final Check check = new Check();

    public static void main(String[] args) {
        EdgesTest test = new EdgesTest();
        test.newObject();
        test.feedUpTo2000();
        test.feedRefused();
        test.feedHighestFirst();
        test.feedBehind();
        test.end();
        test.endForgets();
        test.bookAnswersItsWords();
        test.bookEmptiesTapeAndLine();
        test.bookForgetsTheOneAhead();
        test.bookWithAFault();
        test.lineAnswersItsWords();
        test.lineThatCantBe();
        test.lineRefused();
        test.faultOfTheLatest();
        test.faultBehindRefused();
        test.faultWhat();
        test.metre();
        test.metreStays();
        test.readings();
        test.readingNumbers();
        test.readingWhat();
        test.letter();
        test.best();
        test.choice();
        test.ways();
        test.waysWithoutAWay();
        test.sure();
        test.text();
        test.textWithoutAWay();
        test.textOfWordsNotSure();
        test.settle();
        test.back();
        test.ask();
        test.entry();
        test.about();
        test.aboutWhat();
        test.check.end();
    }

    private static MarkBench bench() {
        return Check.bench(BOOK, 7, LINE);
    }

    private void abouts(MarkBench x, String when, int... want) {
        for (int what = 0; what < want.length; what++) {
            check.due("about(" + what + ") " + when, x.about(what), want[what]);
        }
    }

    /** Promise 1: "No BOOK, a LINE without words." */
    private void newObject() {
        MarkBench x = new MarkBench();
        abouts(x, "of a new bench", 0, 0, 0, 0, 0, 0, 0, -1, 0, 0);
        check.due("entry(0, 0)", x.entry(0, 0), -1);
        check.due("fault(0)", x.fault(0), 0);
        check.due("fault(1)", x.fault(1), -1);
        check.due("readings(0)", x.readings(0), -1);
        check.due("reading(0, 0, 0)", x.reading(0, 0, 0), -1);
        check.due("letter(0, 0, 0)", x.letter(0, 0, 0), -1);
        check.due("best()", x.best(), 0);
        check.due("choice(0)", x.choice(0), -1);
        check.due("ways(0)", x.ways(0), 1);
        check.due("sure(0, 0)", x.sure(0, 0), -1);
        check.due("text(0, 0)", x.text(0, 0), -1);
        check.due("settle(0, 0)", x.settle(0, 0), -1);
        check.due("back(0)", x.back(0), false);
        check.due("ask(0)", x.ask(0), -1);
        check.due("end(0)", x.end(0), 0);
        check.due("end(1)", x.end(1), -1);
        check.due("an empty line", x.line(0), 0);
        check.due("an empty book", x.book(), 0);
        check.due("a new one beside it has nothing of it", new MarkBench().about(9), 0);
    }

    private static MarkBench withTape(int bytes) {
        MarkBench x = new MarkBench();
        Check.feed(x, " ".repeat(bytes));
        return x;
    }

    /** Promise 2: "how many there are; NONE if there would be more than 2,000": 1999, 2000, 2001. */
    private void feedUpTo2000() {
        for (int bytes : new int[] {0, 1, 1978, 1979, 1980}) {
            MarkBench x = withTape(bytes);
            check.due("feed behind " + bytes, x.feed(0, 0, 0, 0, 0), bytes + 20);
            check.due("bytes", x.about(9), bytes + 20);
        }
        for (int bytes : new int[] {1981, 1982, 1999, 2000}) {
            MarkBench x = withTape(bytes);
            check.due("feed behind " + bytes, x.feed(0, 0, 0, 0, 0), -1);
            check.due("bytes", x.about(9), bytes);
        }
    }

    /** Promise 2: "and nothing comes". */
    private void feedRefused() {
        MarkBench x = withTape(1981);
        check.due("refused", x.feed(0x24242424, 0x24242424, 0x24242424, 0x24242424, 0x24242424), -1);
        check.due("no byte more", x.end(1982), -1);
        check.due("all blanks", x.book(), 0);
        check.due("then there is room", x.feed(0, 0, 0, 0, 0), 20);
    }

    /** Promise 2: "Twenty bytes, of each number the highest first". */
    private void feedHighestFirst() {
        MarkBench x = new MarkBench();
        check.due("feed", x.feed(0x61626320, 0x41424320, 0x3d646566, 0x20202020, 0x6768697a), 20);
        check.due("line", x.line(0), 4);
        check.same("in their order", Check.text(x, 0), "abc ABC =def    ghiz");
        int[] places = {0, 1, 2, 3};
        for (int place : places) {
            for (int number = 0; number < 5; number++) {
                int[] n = {0x20202020, 0x20202020, 0x20202020, 0x20202020, 0x20202020};
                n[number] |= 0xff << 24 - 8 * place;
                x = new MarkBench();
                x.feed(n[0], n[1], n[2], n[3], n[4]);
                check.due("a byte of 255", x.line(0), -1);
                check.due("its place", x.fault(1), 4 * number + place);
            }
        }
        x = new MarkBench();
        x.feed(LOW | 0x202020, HIGH, -1, 0, 0);
        check.due("a byte of 128", x.line(0), -1);
        check.due("its place", x.fault(1), 0);
    }

    /** Promise 2: "come behind those on the TAPE". */
    private void feedBehind() {
        MarkBench x = new MarkBench();
        x.feed(0x61616161, 0x61616161, 0x61616161, 0x61616161, 0x61616161);
        check.due("the first three", x.end(3), 3);
        check.due("twenty behind", x.feed(0x62622020, 0x20202020, 0x20202020, 0x20202020, 0x20202063), 23);
        check.due("line", x.line(0), 2);
        check.same("text", Check.text(x, 0), "aaabb" + " ".repeat(17) + "c");
    }

    /** Promise 3: "n; NONE, doing nothing, if it has not so many, or n is below 0". */
    private void end() {
        MarkBench x = new MarkBench();
        check.due("end(-1) of none", x.end(-1), -1);
        check.due("end(0) of none", x.end(0), 0);
        check.due("end(1) of none", x.end(1), -1);
        x.feed(0x20202020, 0x20202020, 0x20202020, 0x20202020, 0x20202020);
        for (int n : new int[] {-1, 21, 22, LOW, HIGH}) {
            check.due("end(" + n + ") of 20", x.end(n), -1);
            check.due("nothing is done", x.about(9), 20);
        }
        check.due("end(20) of 20", x.end(20), 20);
        check.due("bytes", x.about(9), 20);
        check.due("end(19) of 20", x.end(19), 19);
        check.due("bytes", x.about(9), 19);
        check.due("end(20) of 19", x.end(20), -1);
        check.due("end(1) of 19", x.end(1), 1);
        check.due("end(0) of 1", x.end(0), 0);
        check.due("bytes", x.about(9), 0);
        x = withTape(2000);
        check.due("end(2001)", x.end(2001), -1);
        check.due("end(2000)", x.end(2000), 2000);
        check.due("end(1999)", x.end(1999), 1999);
    }

    /** Promise 3: "The TAPE has its first n bytes": not the others. */
    private void endForgets() {
        MarkBench x = new MarkBench();
        Check.feed(x, "name a; $$$$");
        check.due("end(7)", x.end(7), 7);
        check.due("the rest is gone", x.book(), 0);
        check.due("its names", x.about(2), 1);
        Check.feed(x, "name a; x");
        x.end(6);
        check.due("without its sign", x.book(), -1);
        check.due("the end", x.fault(1), 6);
        check.due("what was there does not come again", x.end(7), -1);
    }

    /** Promise 4: "how many words it has". */
    private void bookAnswersItsWords() {
        check.good("", 0);
        check.good("name a; end a A 1 1; pair 1 1 1; bar 1 2; bare 1 1;", 0);
        check.good("word a 1 1;", 1);
        check.good("word a 1 1; word b 1 1;", 2);
    }

    /** Promise 4: "The TAPE (empty then) is the BOOK (the LINE has no words then)." */
    private void bookEmptiesTapeAndLine() {
        MarkBench x = bench();
        x.metre(9);
        x.settle(0, 0);
        check.due("a book", Check.book(x, "word b 1 1;"), 1);
        abouts(x, "behind a book", 1, 0, 0, 0, 0, 0, 7, 9, 0, 0);
        check.due("readings(0)", x.readings(0), -1);
        check.due("reading(0, 0, 0)", x.reading(0, 0, 0), -1);
        check.due("letter(0, 0, 0)", x.letter(0, 0, 0), -1);
        check.due("best()", x.best(), 0);
        check.due("choice(0)", x.choice(0), -1);
        check.due("ways(0)", x.ways(0), 1);
        check.due("sure(0, 0)", x.sure(0, 0), -1);
        check.due("text(0, 0)", x.text(0, 0), -1);
        check.due("settle(0, 0)", x.settle(0, 0), -1);
        check.due("ask(100)", x.ask(100), -1);
        check.due("the tape is empty", x.end(1), -1);
        check.due("an empty tape is a book, too", x.book(), 0);
        abouts(x, "behind an empty book", 0, 0, 0, 0, 0, 0, 7, 9, 0, 0);
    }

    /** Promise 4: words, ends, names, pairs, bars and bare of the book ahead are no more. */
    private void bookForgetsTheOneAhead() {
        MarkBench x = Check.bench("word a 1 1; end b B 2 2; name c; bare 3 3; bar 3 3; pair 4 4 9; pair 7 1 9;", 0, "a b c d d");
        check.due("best()", x.best(), -2);
        check.due("another book", Check.book(x, "word e 4 0; pair 0 4 1;"), 1);
        Check.line(x, 0, "a b c d e e");
        for (int word = 0; word < 4; word++) {
            check.due("readings(" + word + ")", x.readings(word), 1);
            check.due("kind of " + word, x.reading(word, 0, 0), 0);
            check.due("cost of " + word, x.reading(word, 0, 1), 50);
        }
        check.due("best()", x.best(), 201);
        check.due("a book with a fault", Check.book(x, "word a 1 1; end b B 2 2; name c; bare 3 3; bar 0 0; $"), -1);
        check.due("nothing of it counts", x.best(), 201);
        Check.line(x, 0, "a b c d e e");
        check.due("nor in another line", x.best(), 201);
    }

    /** Promise 4: "NONE: a FAULT (all stays)". */
    private void bookWithAFault() {
        MarkBench x = bench();
        x.metre(4);
        x.settle(0, 0);
        check.due("a fault", Check.book(x, "word b 1 1; name c; end d D 1 1; bar 1 1; bare 1 1; x"), -1);
        abouts(x, "behind a fault", 5, 1, 1, 3, 3, 12, 7, 4, 1, 53);
        check.due("best()", x.best(), 4 + 15);
        check.due("readings(0)", x.readings(0), 1);
        check.due("entry(0, 2)", x.entry(0, 2), 1);
        check.same("the text", Check.text(x, 0), " la cotE =x ");
        check.due("the tape is mended", x.end(52), 52);
        check.due("then it is a book", x.book(), 1);
        abouts(x, "behind it", 1, 1, 1, 1, 0, 0, 7, 4, 0, 0);
    }

    /** Promise 5: "The TAPE (empty then) is the LINE of a DAY: how many words". */
    private void lineAnswersItsWords() {
        MarkBench x = bench();
        abouts(x, "behind a line", 5, 1, 1, 3, 3, 12, 7, -1, 0, 0);
        check.due("the tape is empty", x.end(1), -1);
        check.due("an empty line of day 0", x.line(0), 0);
        abouts(x, "behind it", 5, 1, 1, 3, 0, 0, 0, -1, 0, 0);
        check.due("a line of the last day", Check.line(x, 100000, "a"), 1);
        abouts(x, "behind it", 5, 1, 1, 3, 1, 1, 100000, -1, 0, 0);
    }

    /** Promise 5: "NONE: it can't be (all stays)". */
    private void lineThatCantBe() {
        MarkBench x = bench();
        x.metre(4);
        x.settle(1, 2);
        check.due("it can't be", Check.line(x, 9, "cote cote $"), -1);
        abouts(x, "behind it", 5, 1, 1, 3, 3, 12, 7, 4, 1, 11);
        check.due("readings(0)", x.readings(0), 2);
        check.due("readings(1)", x.readings(1), 1);
        check.due("best()", x.best(), 5 + 14);
        check.same("the text", Check.text(x, 0), " la cotE =x ");
        check.due("the tape is mended", x.end(10), 10);
        check.due("then it is a line", x.line(9), 2);
        abouts(x, "behind it", 5, 1, 1, 3, 2, 10, 9, 4, 1, 0);
    }

    /** Promise 5: "-2, and the TAPE stays: no such DAY, or more than 200 bytes": days -1 to 100001, 199 to 201 bytes. */
    private void lineRefused() {
        MarkBench x = bench();
        Check.feed(x, "la");
        for (int day : new int[] {-1, -2, 100001, 100002, LOW, HIGH}) {
            check.due("line(" + day + ")", x.line(day), -2);
            abouts(x, "behind it", 5, 1, 1, 3, 3, 12, 7, -1, 0, 2);
        }
        check.due("line(0)", x.line(0), 1);
        check.due("its day", x.about(6), 0);
        for (int day : new int[] {1, 99999, 100000}) {
            check.due("line(" + day + ")", Check.line(x, day, "la"), 1);
            check.due("its day", x.about(6), day);
        }
        for (int bytes : new int[] {199, 200}) {
            check.due(bytes + " bytes", Check.line(x, 0, " ".repeat(bytes)), 0);
            check.due("its bytes", x.about(5), bytes);
        }
        for (int bytes : new int[] {201, 202}) {
            check.due(bytes + " bytes", Check.line(x, 5, " ".repeat(bytes)), -2);
            abouts(x, "behind it", 5, 1, 1, 3, 0, 200, 0, -1, 0, bytes);
        }
        check.due("cut to 200", x.end(200), 200);
        check.due("it is a line", x.line(5), 0);
        check.due("its day", x.about(6), 5);
    }

    private void faults(MarkBench x, String when, int fault, int place) {
        check.due("fault(0) " + when, x.fault(0), fault);
        check.due("fault(1) " + when, x.fault(1), place);
    }

    /** Promise 6: "Of the latest book() or line() what 0: its FAULT (0; of a LINE 1), 1: its place (NONE)." */
    private void faultOfTheLatest() {
        MarkBench x = new MarkBench();
        faults(x, "of none", 0, -1);
        Check.book(x, "name a; $");
        faults(x, "1", 1, 8);
        Check.book(x, "name a; ;");
        faults(x, "2", 2, 8);
        Check.book(x, "name a; name A;");
        faults(x, "3", 3, 13);
        Check.book(x, "bar 1 8;");
        faults(x, "4", 4, 6);
        Check.book(x, "end a b 1 1;");
        faults(x, "5", 5, 6);
        Check.line(x, 0, "ab $");
        faults(x, "of a line", 1, 3);
        Check.line(x, 0, "$");
        faults(x, "of a line at 0", 1, 0);
        Check.line(x, 0, "ab");
        faults(x, "of a good line", 0, -1);
        Check.book(x, "$");
        faults(x, "at 0", 1, 0);
        Check.book(x, "name a;");
        faults(x, "of a good book", 0, -1);
        Check.line(x, 0, "=");
        faults(x, "of a line at its end", 1, 1);
        Check.book(x, "");
        faults(x, "of an empty book", 0, -1);
    }

    /** Promise 6: "that was not -2". */
    private void faultBehindRefused() {
        MarkBench x = new MarkBench();
        Check.book(x, "bar 1 8;");
        check.due("no such day", x.line(-1), -2);
        faults(x, "behind a -2", 4, 6);
        check.due("too long", Check.line(x, 0, "$".repeat(201)), -2);
        faults(x, "behind a -2", 4, 6);
        Check.line(x, 0, "a");
        check.due("no such day", Check.line(x, 100001, "$"), -2);
        faults(x, "behind a -2", 0, -1);
        x.feed(0, 0, 0, 0, 0);
        x.end(3);
        x.metre(3);
        faults(x, "behind other calls", 0, -1);
    }

    /** Promise 6: "NONE for another what": -1, 2. */
    private void faultWhat() {
        MarkBench x = new MarkBench();
        Check.book(x, "bar 1 8;");
        for (int what : new int[] {-1, 2, 3, LOW, HIGH}) {
            check.due("fault(" + what + ")", x.fault(what), -1);
        }
    }

    /** Promise 7: "METRE (0 .. 400), or none (NONE): true; false, doing nothing, for another". */
    private void metre() {
        MarkBench x = bench();
        for (int weight : new int[] {0, 1, 399, 400, -1}) {
            check.due("metre(" + weight + ")", x.metre(weight), true);
            check.due("about(7)", x.about(7), weight);
        }
        for (int weight : new int[] {-2, 401, -3, 402, LOW, HIGH}) {
            check.due("metre(" + weight + ")", x.metre(weight), false);
            check.due("none still", x.about(7), -1);
            check.due("best()", x.best(), 15);
        }
        x.metre(4);
        for (int weight : new int[] {-2, 401}) {
            check.due("metre(" + weight + ")", x.metre(weight), false);
            check.due("4 still", x.about(7), 4);
            check.due("best()", x.best(), 20);
        }
    }

    /** Promise 7: a metre is there until another is told, over lines and books. */
    private void metreStays() {
        MarkBench x = new MarkBench();
        check.due("ahead of a book", x.metre(2), true);
        Check.book(x, "word e 1 1; word E 1 9;");
        check.due("behind it", x.about(7), 2);
        Check.line(x, 0, "e");
        check.due("behind a line", x.about(7), 2);
        check.due("best()", x.best(), 9);
        Check.line(x, 0, "e e");
        check.due("best() of another line", x.best(), 2);
    }

    /** Promise 8: "NONE if there is none such": words -1, 0, 2, 3. */
    private void readings() {
        MarkBench x = bench();
        int[] words = {-1, 0, 1, 2, 3, 14, LOW, HIGH};
        int[] want = {-1, 2, 3, 1, -1, -1, -1, -1};
        for (int k = 0; k < words.length; k++) {
            check.due("readings(" + words[k] + ")", x.readings(words[k]), want[k]);
        }
        Check.line(x, 0, "a b c d e f g h i j k l m la");
        check.due("readings(13) of fourteen", x.readings(13), 2);
        check.due("readings(14) of fourteen", x.readings(14), -1);
        check.due("they have no way more for it", x.best(), 13 * 40 + 5);
    }

    /** Promise 9: "NONE if there is none such": words and readings one below the first and one above the last. */
    private void readingNumbers() {
        MarkBench x = bench();
        int[] wanted = {3, 1, 7};
        int[] last = {4, 1, 7};
        int[] counts = {2, 3, 1};
        for (int word = 0; word < 3; word++) {
            check.due("the first of " + word, x.reading(word, 0, 0), wanted[word]);
            check.due("the last of " + word, x.reading(word, counts[word] - 1, 0), last[word]);
            for (int what = 0; what <= 5; what++) {
                check.due("one above the last of " + word, x.reading(word, counts[word], what), -1);
                check.due("one below the first of " + word, x.reading(word, -1, what), -1);
                check.due("no word", x.reading(-1, 0, what), -1);
                check.due("no word", x.reading(3, 0, what), -1);
            }
        }
        for (int n : new int[] {LOW, HIGH, 12, 14, 168}) {
            check.due("reading(" + n + ", 0, 0)", x.reading(n, 0, 0), -1);
            check.due("reading(0, " + n + ", 0)", x.reading(0, n, 0), -1);
        }
        check.due("the next word's first is no third of this one", x.reading(0, 2, 0), -1);
        check.due("nor a twelfth", x.reading(0, 12, 0), -1);
        check.due("nor one of a word below", x.reading(1, -12, 0), -1);
    }

    /** Promise 9: "what 0: KIND, 1: COST, 2: WEIGHT, 3: letters, 4: the word of the BOOK (NONE), 5: THROUGH". */
    private void readingWhat() {
        MarkBench x = bench();
        int[][] want = {{3, 5, 1, 2, 0, 15}, {4, 9, 2, 2, 1, 29}};
        for (int reading = 0; reading < 2; reading++) {
            for (int what = 0; what <= 5; what++) {
                check.due("reading(0, " + reading + ", " + what + ")", x.reading(0, reading, what), want[reading][what]);
            }
        }
        int[] kept = {7, 0, 0, 1, -1, 15};
        for (int what = 0; what <= 5; what++) {
            check.due("reading(2, 0, " + what + ")", x.reading(2, 0, what), kept[what]);
        }
        for (int what : new int[] {-1, 6, 7, LOW, HIGH}) {
            check.due("reading(0, 0, " + what + ")", x.reading(0, 0, what), -1);
        }
        x.metre(0);
        check.due("THROUGH without a WAY", x.reading(0, 0, 5), -1);
        check.due("the others without a WAY", x.reading(0, 0, 1), 5);
        x = Check.bench("word a 0 0;", 0, "a");
        check.due("the first word of the BOOK is 0", x.reading(0, 0, 4), 0);
        check.due("THROUGH of 0", x.reading(0, 0, 5), 0);
    }

    /** Promise 10: "Letter k of a READING; NONE if there is none such". */
    private void letter() {
        MarkBench x = Check.bench("word abcdefghijkL 1 1; word Ab 1 1;", 0, "abcdefghijkl ab q");
        String form = "abcdefghijkL";
        for (int k = 0; k < 12; k++) {
            check.due("letter(0, 0, " + k + ")", x.letter(0, 0, k), form.charAt(k));
        }
        int[] others = {-1, 12, 13, -12, LOW, HIGH};
        for (int k : others) {
            check.due("letter(0, 0, " + k + ")", x.letter(0, 0, k), -1);
        }
        check.due("letter(1, 0, 0)", x.letter(1, 0, 0), 'A');
        check.due("letter(1, 0, 1)", x.letter(1, 0, 1), 'b');
        check.due("letter(1, 0, 2)", x.letter(1, 0, 2), -1);
        check.due("letter(1, 0, -1)", x.letter(1, 0, -1), -1);
        check.due("letter(2, 0, 0)", x.letter(2, 0, 0), 'q');
        check.due("letter(2, 0, 1)", x.letter(2, 0, 1), -1);
        check.due("letter(1, 1, 0)", x.letter(1, 1, 0), -1);
        check.due("letter(1, -1, 0)", x.letter(1, -1, 0), -1);
        check.due("letter(3, 0, 0)", x.letter(3, 0, 0), -1);
        check.due("letter(-1, 0, 0)", x.letter(-1, 0, 0), -1);
        for (int n : new int[] {LOW, HIGH, 12, 14, 168}) {
            check.due("letter(" + n + ", 0, 0)", x.letter(n, 0, 0), -1);
            check.due("letter(0, " + n + ", 0)", x.letter(0, n, 0), -1);
        }
    }

    /** Promise 11: "-2 if there is no WAY. (0 without words, whatever the METRE: there is one WAY.)" */
    private void best() {
        MarkBench x = bench();
        check.due("best()", x.best(), 15);
        int[] byWeight = {-2, 15, 20, 29, -2};
        for (int weight = 2; weight <= 6; weight++) {
            x.metre(weight);
            check.due("best() by " + weight, x.best(), byWeight[weight - 2]);
        }
        for (int weight : new int[] {-1, 0, 1, 400}) {
            x.metre(weight);
            check.due("an empty line", Check.line(x, 0, ""), 0);
            check.due("best() without words by " + weight, x.best(), 0);
            check.due("ways(0) without words", x.ways(0), 1);
            check.due("ways(100) without words", x.ways(100), 1);
            check.due("a line of blanks", Check.line(x, 0, "  "), 0);
            check.due("best() without words by " + weight, x.best(), 0);
        }
        check.due("a WAY that costs 0", Check.bench("word a 1 0;", 0, "a").best(), 0);
    }

    /** Promise 12: "NONE without, or if there is no such word". */
    private void choice() {
        MarkBench x = bench();
        int[] words = {-1, 0, 1, 2, 3, 14, LOW, HIGH};
        int[] want = {-1, 0, 0, 0, -1, -1, -1, -1};
        for (int k = 0; k < words.length; k++) {
            check.due("choice(" + words[k] + ")", x.choice(words[k]), want[k]);
        }
        x.metre(5);
        check.due("lA before cOte by 5: word 0", x.choice(0), 1);
        check.due("lA before cOte by 5: word 1", x.choice(1), 1);
        x.metre(400);
        for (int word = -1; word <= 3; word++) {
            check.due("choice(" + word + ") without a WAY", x.choice(word), -1);
        }
        StringBuilder twelve = new StringBuilder();
        for (int k = 0; k < 12; k++) {
            twelve.append("word ").append(k < 8 ? "a" : "A").append(' ').append(k % 8).append(' ').append(11 - k).append(';');
        }
        x = Check.bench(twelve.toString(), 0, "a a");
        check.due("the twelfth", x.choice(0), 11);
        check.due("the twelfth", x.choice(1), 11);
    }

    /** Promise 13: "How many WAYS cost BEST + GAP at most; NONE for another GAP": gaps -1, 0, 100, 101. */
    private void ways() {
        MarkBench x = bench();
        int[] gaps = {-1, 0, 4, 5, 13, 14, 99, 100, 101, LOW, HIGH};
        long[] want = {-1, 1, 1, 2, 2, 4, 4, 4, -1, -1, -1};
        for (int k = 0; k < gaps.length; k++) {
            check.due("ways(" + gaps[k] + ")", x.ways(gaps[k]), want[k]);
        }
        x = Check.bench("word a 0 0; word a 1 0; word a 2 99;", 0, "a a a");
        check.due("ways(0)", x.ways(0), 8);
        check.due("ways(98)", x.ways(98), 8);
        check.due("ways(99)", x.ways(99), 20);
        check.due("ways(100)", x.ways(100), 20);
    }

    /** Promise 13: "0 without a WAY". */
    private void waysWithoutAWay() {
        MarkBench x = bench();
        x.metre(0);
        int[] gaps = {-1, 0, 1, 100, 101};
        long[] want = {-1, 0, 0, 0, -1};
        for (int k = 0; k < gaps.length; k++) {
            check.due("ways(" + gaps[k] + ")", x.ways(gaps[k]), want[k]);
        }
        x.metre(-1);
        check.due("with one again", x.ways(100), 4);
    }

    /** Promise 14: "1 if a word is SURE by a GAP, else 0; NONE if one can't be, or there is no WAY". */
    private void sure() {
        MarkBench x = bench();
        int[][] want = {{0, 0, 1}, {0, 13, 1}, {0, 14, 0}, {0, 15, 0}, {0, 100, 0}, {1, 0, 1}, {1, 4, 1}, {1, 5, 0}, {2, 100, 1},
            {0, -1, -1}, {0, 101, -1}, {-1, 0, -1}, {3, 0, -1}, {-1, 101, -1}, {0, LOW, -1}, {0, HIGH, -1}, {LOW, 0, -1}, {HIGH, 0, -1}};
        for (int[] row : want) {
            check.due("sure(" + row[0] + ", " + row[1] + ")", x.sure(row[0], row[1]), row[2]);
        }
        x.metre(0);
        for (int[] row : want) {
            check.due("sure(" + row[0] + ", " + row[1] + ") without a WAY", x.sure(row[0], row[1]), -1);
        }
    }

    /** Promise 15: "Byte k of the LINE's text; NONE if there is none such". */
    private void text() {
        MarkBench x = bench();
        x.metre(4);
        String want = " la cotE =x ";
        for (int k = 0; k < want.length(); k++) {
            check.due("text(0, " + k + ")", x.text(0, k), want.charAt(k));
        }
        for (int k : new int[] {-1, 12, 13, 200, LOW, HIGH}) {
            check.due("text(0, " + k + ")", x.text(0, k), -1);
        }
        for (int gap : new int[] {-1, 101, LOW, HIGH}) {
            check.due("text(" + gap + ", 0)", x.text(gap, 0), -1);
        }
        check.due("text(100, 0)", x.text(100, 0), ' ');
        check.due("text(100, 11)", x.text(100, 11), ' ');
        Check.line(x, 0, "");
        check.due("text(0, 0) of no bytes", x.text(0, 0), -1);
        x.metre(-1);
        Check.line(x, 0, "   parler");
        check.same("a line", Check.text(x, 0), "   parlEr");
        Check.line(x, 0, "=er er");
        check.same("a shorter one behind it", Check.text(x, 0), "=er Er");
        Check.line(x, 0, "er           er");
        check.same("a longer one behind it", Check.text(x, 0), "Er           Er");
        Check.line(x, 0, " ");
        check.due("text(0, 0) of a blank", x.text(0, 0), ' ');
        check.due("text(0, 1) of a blank", x.text(0, 1), -1);
    }

    /** Promise 15: "(without a WAY all as they stand)", and NONE for another gap still. */
    private void textWithoutAWay() {
        MarkBench x = Check.bench("word A 1 1;", 0, "a =b");
        check.same("with a WAY", Check.text(x, 0), "A =b");
        x.metre(9);
        check.same("without", Check.text(x, 0), "a =b");
        check.same("without, by 100", Check.text(x, 100), "a =b");
        check.due("text(101, 0)", x.text(101, 0), -1);
        check.due("text(-1, 0)", x.text(-1, 0), -1);
        check.due("text(0, 4)", x.text(0, 4), -1);
        x.metre(-1);
        check.same("with a WAY again", Check.text(x, 0), "A =b");
    }

    /** Promise 15: "each word that is SURE by a GAP as it is read (by its first NEAR READING), the others as they stand". */
    private void textOfWordsNotSure() {
        MarkBench x = Check.bench("word abcd 1 9; word AbcD 2 0; word Abcd 3 3;", 0, "abcd Abcd abcD");
        check.same("by 0", Check.text(x, 0), "AbcD AbcD AbcD");
        check.same("by 2", Check.text(x, 2), "AbcD AbcD AbcD");
        check.same("by 3: two of them are not sure", Check.text(x, 3), "abcd Abcd AbcD");
        check.same("by 100", Check.text(x, 100), "abcd Abcd AbcD");
        x = Check.bench("word ab 1 9; word aB 2 5; word aB 3 4;", 0, "ab");
        check.same("the first NEAR one is not the first", Check.text(x, 1), "aB");
        check.same("nor is it the BEST one", Check.text(x, 4), "aB");
        check.same("by 5", Check.text(x, 5), "ab");
    }

    /** Promise 16: "NONE, doing nothing, if there is no such word or READING, it is no word of the BOOK, or there are 60". */
    private void settle() {
        MarkBench x = bench();
        int[][] refused = {{-1, 0}, {3, 0}, {0, -1}, {0, 2}, {1, 3}, {2, 0}, {2, 1}, {LOW, 0}, {HIGH, 0}, {0, LOW}, {0, HIGH},
            {0, 12}, {1, -12}};
        for (int[] row : refused) {
            check.due("settle(" + row[0] + ", " + row[1] + ")", x.settle(row[0], row[1]), -1);
            check.due("hands", x.about(8), 0);
            check.due("best()", x.best(), 15);
        }
        check.due("settle(1, 2), the last reading", x.settle(1, 2), 0);
        check.due("settle(1, 1) of one", x.settle(1, 1), -1);
        check.due("settle(0, 0), the first word", x.settle(0, 0), 1);
        check.due("best()", x.best(), 4 + 14);
        check.due("hands", x.about(8), 2);
    }

    /** Promise 17: "true; false if it is so already, or there is none such": hands -1, 0, the last, one more. */
    private void back() {
        MarkBench x = bench();
        for (int hand : new int[] {-1, 0, 1, 59, 60, LOW, HIGH}) {
            check.due("back(" + hand + ") of none", x.back(hand), false);
        }
        x.settle(0, 0);
        x.settle(1, 0);
        for (int hand : new int[] {-1, 2, 3, 59, 60, LOW, HIGH}) {
            check.due("back(" + hand + ") of two", x.back(hand), false);
            check.due("nothing is done", x.best(), 13);
        }
        check.due("back(1), the last", x.back(1), true);
        check.due("back(1) again", x.back(1), false);
        check.due("back(0), the first", x.back(0), true);
        check.due("back(0) again", x.back(0), false);
        check.due("hands, taken back, too", x.about(8), 2);
        check.due("best()", x.best(), 15);
    }

    /** Promise 18: "NONE if all are SURE, there is no WAY, or another GAP". */
    private void ask() {
        MarkBench x = bench();
        int[] gaps = {-1, 0, 4, 5, 13, 14, 100, 101, LOW, HIGH};
        int[] want = {-1, -1, -1, 1, 1, 1, 1, -1, -1, -1};
        for (int k = 0; k < gaps.length; k++) {
            check.due("ask(" + gaps[k] + ")", x.ask(gaps[k]), want[k]);
        }
        x.metre(0);
        for (int gap : gaps) {
            check.due("ask(" + gap + ") without a WAY", x.ask(gap), -1);
        }
        x.metre(-1);
        check.due("ask(5) with one again", x.ask(5), 1);
        Check.line(x, 0, "");
        check.due("ask(100) without words", x.ask(100), -1);
        Check.line(x, 0, "x y z x y z x y z x y z x la");
        check.due("the last of fourteen", x.ask(100), 13);
        check.due("sure by 3", x.ask(3), -1);
        check.due("not by 4", x.ask(4), 13);
    }

    /** Promise 19: "what 0: KIND, 1: COST as told, .. 5: until (100000 if not told). NONE if there is none such." */
    private void entry() {
        MarkBench x = Check.bench("word abc 0 99 since 0 until 0; word d 7 0 since 100000 until 100000; word abcdefghijkl 1 1;", 0, "abc");
        int[][] want = {{0, 99, 0, 3, 0, 0}, {7, 0, 0, 1, 100000, 100000}, {1, 1, 0, 12, 0, 100000}};
        for (int k = 0; k < 3; k++) {
            for (int what = 0; what <= 5; what++) {
                check.due("entry(" + k + ", " + what + ")", x.entry(k, what), want[k][what]);
            }
            for (int what : new int[] {-1, 6, 7, LOW, HIGH}) {
                check.due("entry(" + k + ", " + what + ")", x.entry(k, what), -1);
            }
        }
        for (int k : new int[] {-1, 3, 4, 80, LOW, HIGH}) {
            for (int what = 0; what <= 5; what++) {
                check.due("entry(" + k + ", " + what + ")", x.entry(k, what), -1);
            }
        }
        x.settle(0, 0);
        check.due("how often", x.entry(0, 2), 1);
        check.due("as told", x.entry(0, 1), 99);
        Check.book(x, "word e 1 1;");
        check.due("entry(1, 0) of the book ahead", x.entry(1, 0), -1);
        check.due("entry(0, 3)", x.entry(0, 3), 1);
    }

    /** Promise 20: each of the numbers where it is more than none. */
    private void about() {
        MarkBench x = bench();
        x.metre(0);
        x.settle(0, 0);
        x.settle(1, 0);
        x.back(0);
        x.feed(0, 0, 0, 0, 0);
        abouts(x, "of a full bench", 5, 1, 1, 3, 3, 12, 7, 0, 2, 20);
        x.end(1);
        check.due("bytes on the tape", x.about(9), 1);
        Check.line(x, 8, "   a");
        abouts(x, "behind another line", 5, 1, 1, 3, 1, 4, 8, 0, 2, 0);
    }

    /** Promise 20: "NONE for another what": -1, 10. */
    private void aboutWhat() {
        MarkBench x = bench();
        for (int what : new int[] {-1, -2, 10, 11, LOW, HIGH}) {
            check.due("about(" + what + ")", x.about(what), -1);
        }
    }
}
