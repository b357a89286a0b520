/** The Terms, part 1: each sentence on letters, books, tokens and faults at its boundary, below it and above it. */
public final class BooksTest {
    private static final String VOWELS = "aeiou";
    private static final String[] KEYWORDS = {"word", "end", "name", "pair", "bar", "bare", "since", "until"};
    /** Every sort of line, token by token; no two of them meet. */
    private static final String[][] LINES = {
        {"word", "ab", "1", "2", ";"},
        {"word", "ab", "1", "2", "since", "3", ";"},
        {"word", "ab", "1", "2", "until", "4", ";"},
        {"word", "ab", "1", "2", "since", "3", "until", "4", ";"},
        {"end", "ab", "AB", "1", "2", ";"},
        {"name", "ab", ";"},
        {"pair", "1", "2", "3", ";"},
        {"bar", "1", "2", ";"},
        {"bare", "1", "2", ";"},
    };
    /** Lines with one number left open, and the most it may be. */
    private static final String[] KIND_PLACES = {"word a # 1;", "end a A # 1;", "pair # 1 1;", "pair 1 # 1;", "bar # 1;",
        "bar 1 #;", "bare # 1;"};
    private static final String[] COST_PLACES = {"word a 1 #;", "end a A 1 #;", "pair 1 1 #;", "bare 1 #;"};
    private static final String[] DAY_PLACES = {"word a 1 1 since #;", "word a 1 1 until #;", "word a 1 1 since # until 5;",
        "word a 1 1 since 5 until #;"};
    private final Check check = new Check();

    public static void main(String[] args) {
        BooksTest test = new BooksTest();
        test.letters();
        test.marked();
        test.weights();
        test.bytes();
        test.linesCut();
        test.tokensOfAnotherSort();
        test.daysAreLeftToTell();
        test.formsOfTwelve();
        test.numbersOfSix();
        test.blanks();
        test.partedOrNot();
        test.noLetterBehindANumber();
        test.keywordsAreForms();
        test.kinds();
        test.costs();
        test.days();
        test.eightyWords();
        test.twentyEnds();
        test.twentyNames();
        test.fortyPairsAndBars();
        test.oneBare();
        test.endsAreAlike();
        test.faultPlaces();
        test.noToken();
        test.toldAsWord();
        test.toldAsName();
        test.toldAsPair();
        test.firstByPlace();
        test.check.end();
    }

    private static boolean isLetter(int c) {
        return c >= 97 && c <= 122 || c >= 65 && c <= 90;
    }

    private static int words(String book) {
        return book.split("word ", -1).length - 1;
    }

    /** "LETTERS are a .. z, and A .. Z": 64, 91, 96 and 123 are none, nor is any other byte. */
    private void letters() {
        for (int c = 0; c < 256; c++) {
            String byteAlone = String.valueOf((char) c);
            if (isLetter(c)) {
                check.good("name " + byteAlone + ";", 0);
                check.goodLine(byteAlone, 1);
            } else if (c == 32) {
                check.bad("name " + byteAlone + ";", 2, 6);
                check.goodLine(byteAlone, 0);
            } else {
                boolean isToken = c == 10 || c == ';' || c >= '0' && c <= '9';
                check.bad("name " + byteAlone + ";", isToken ? 2 : 1, c == 10 ? 6 : 5);
                check.badLine(byteAlone, c == '=' ? 1 : 0);
            }
        }
    }

    /** "A .. Z: the same, MARKED. BARE is a word with its MARKED letters as the others." */
    private void marked() {
        for (char c = 'a'; c <= 'z'; c++) {
            char other = (char) (c - 32);
            char next = (char) (c == 'z' ? 'a' : c + 1);
            check.bad("name " + c + "; name " + other + ";", 3, 13);
            check.bad("name " + other + "; name " + c + ";", 3, 13);
            check.good("name " + c + "; name " + next + ";", 0);
            check.good("end " + c + " " + other + " 1 1;", 0);
            check.bad("end " + c + " " + next + " 1 1;", 5, 6);
            MarkBench x = Check.bench("word " + other + " 1 1; word " + next + " 1 1;", 0, c + " " + other);
            check.due("readings of " + c, x.readings(0), 1);
            check.due("the word of the book of " + c, x.reading(0, 0, 4), 0);
            check.due("its letter", x.letter(0, 0, 0), other);
            check.due("the word of the book of " + other, x.reading(1, 0, 4), 0);
            x = Check.bench("word " + c + " 1 1; end " + other + c + " " + other + other + " 2 2;", 0, c + " " + other + " " + c + other);
            check.due("the word of the book of " + c, x.reading(0, 0, 4), 0);
            check.due("it has not the mark of " + other, x.reading(1, 0, 4), -1);
            check.due("an end with the mark of " + other, x.reading(2, 0, 0), 2);
            x = Check.bench("end " + other + " " + c + " 2 2;", 0, c + " " + other);
            check.due("an end without the mark: " + c, x.reading(0, 0, 0), 2);
            check.due("an end without the mark: " + other, x.reading(1, 0, 0), 0);
        }
    }

    /** "WEIGHT of a word: 1 for each of a e i o u in it, 2 for each of A E I O U." */
    private void weights() {
        for (char c = 'a'; c <= 'z'; c++) {
            char other = (char) (c - 32);
            int weight = VOWELS.indexOf(c) >= 0 ? 1 : 0;
            MarkBench x = Check.bench("", 0, c + " " + other + " x" + c + c + other + " =" + other + other);
            int[] want = {weight, 2 * weight, 4 * weight, 4 * weight};
            for (int word = 0; word < want.length; word++) {
                check.due("weight of word " + word + " by " + c, x.reading(word, 0, 2), want[word]);
            }
        }
        MarkBench x = Check.bench("word AEIOUAEIOUAE 1 1;", 0, "aeiouaeiouae =aeiouaeiouae =aeiouaeiouaE bcdfghjklmnp");
        int[] want = {24, 12, 13, 0};
        for (int word = 0; word < want.length; word++) {
            check.due("weight of twelve letters " + word, x.reading(word, 0, 2), want[word]);
        }
    }

    /** "BOOKS are a text of at most 2,000 bytes." */
    private void bytes() {
        String line = "word a 1 1;";
        for (int length = 1998; length <= 2000; length++) {
            String blanks = " ".repeat(length - line.length());
            check.good(blanks + line, 1);
            check.good(line + blanks, 1);
            check.bad(blanks + "word a 1 8$", 1, length - 1);
            check.bad(blanks + "word a 1 18", 2, length);
        }
        check.due("2001 bytes do not fit the tape", Check.feed(new MarkBench(), " ".repeat(2001)), false);
        check.bad("name a;" + ";".repeat(1993), 2, 7);
        check.bad(";".repeat(2000), 2, 0);
        check.bad(";".repeat(1999) + "$", 2, 0);
        check.bad("1;".repeat(1000), 2, 0);
        check.bad("a".repeat(2000), 2, 0);
        check.bad("1".repeat(2000), 2, 0);
        check.good("", 0);
        check.good(" ", 0);
        check.bad("a", 2, 0);
    }

    /** "the end: the text's length": of a line that stops too early. */
    private void linesCut() {
        for (String[] line : LINES) {
            String start = "";
            for (int k = 0; k < line.length - 1; k++) {
                start += (k == 0 ? "" : " ") + line[k];
                check.bad(start, 2, start.length());
                check.bad(start + " ", 2, start.length() + 1);
                check.bad(start + "\n", 2, start.length() + 1);
                check.bad("name zz;" + start, 2, start.length() + 8);
            }
            String whole = start + " ;";
            check.good(whole, words(whole));
            check.good(whole + "name zz;", words(whole));
            check.good("name zz;" + whole, words(whole));
        }
    }

    /** "2 one that can't stand there": each token in turn is another one. */
    private void tokensOfAnotherSort() {
        for (String[] line : LINES) {
            for (int k = 0; k < line.length; k++) {
                for (String other : new String[] {"zz", "Word", "5", ";", "since", "until", "word"}) {
                    if (!maySome(line, k, other)) {
                        String ahead = String.join(" ", java.util.Arrays.copyOf(line, k)) + (k == 0 ? "" : " ");
                        String behind = " " + String.join(" ", java.util.Arrays.copyOfRange(line, k + 1, line.length));
                        check.bad(ahead + other + behind, 2, ahead.length());
                        check.bad("name zz;" + ahead + other + behind, 2, ahead.length() + 8);
                    }
                }
            }
        }
        for (String keyword : KEYWORDS) {
            check.bad(Character.toUpperCase(keyword.charAt(0)) + keyword.substring(1) + " a 1 1;", 2, 0);
            check.bad(keyword + "x a 1 1;", 2, 0);
            check.bad(keyword.substring(0, keyword.length() - 1) + "x a 1 1;", 2, 0);
        }
        check.bad("since 1;", 2, 0);
        check.bad("until 1;", 2, 0);
        check.bad("name a;;", 2, 7);
    }

    /** Whether another token in the place of one may stand there, or it is left to another test. */
    private static boolean maySome(String[] line, int k, String other) {
        String token = line[k];
        boolean isForm = isLetter(other.charAt(0));
        if (k == 0) {
            return other.equals("word");
        }
        if (token.equals("since") || token.equals("until") || token.equals(";") && line[0].equals("word")) {
            return other.equals(";") || other.equals("since") || other.equals("until");
        }
        if (isLetter(token.charAt(0))) {
            return isForm;
        }
        return token.equals(";") ? other.equals(";") : other.equals("5");
    }

    /** "[since DAY] [until DAY]": none, one of them, both in this order, each once. */
    private void daysAreLeftToTell() {
        MarkBench x = new MarkBench();
        Check.book(x, "word a 1 1; word b 1 1 since 3; word c 1 1 until 4; word d 1 1 since 3 until 4;");
        int[][] want = {{0, 100000}, {3, 100000}, {0, 4}, {3, 4}};
        for (int k = 0; k < 4; k++) {
            check.due("since of " + k, x.entry(k, 4), want[k][0]);
            check.due("until of " + k, x.entry(k, 5), want[k][1]);
        }
        check.bad("word a 1 1 until 4 since 3;", 2, 19);
        check.bad("word a 1 1 since 3 since 3;", 2, 19);
        check.bad("word a 1 1 until 4 until 4;", 2, 19);
        check.bad("word a 1 1 since 3 until 4 since 3;", 2, 27);
        check.bad("word a 1 1 since 3 4;", 2, 19);
        check.bad("end a A 1 1 since 3;", 2, 12);
        check.bad("name a until 3;", 2, 7);
        check.bad("pair 1 1 1 since 3;", 2, 11);
        check.bad("bar 1 1 until 3;", 2, 8);
        check.bad("bare 1 1 since 3;", 2, 9);
    }

    /** "FORMS (letters, 12 at most)", "each is as long as can be": a 13th letter begins another. */
    private void formsOfTwelve() {
        for (int length = 1; length <= 12; length++) {
            String form = "abcdefghijkl".substring(0, length);
            check.good("word " + form + " 1 1; name " + form + "; end " + form + " " + form.toUpperCase() + " 1 1;", 1);
            MarkBench x = Check.bench("word " + form + " 1 1;", 0, form);
            check.due("letters", x.entry(0, 3), length);
            check.due("its reading is that word", x.reading(0, 0, 4), 0);
            check.due("letters of the reading", x.reading(0, 0, 3), length);
            check.same("its letters", Check.spelling(x, 0, 0), form);
        }
        check.bad("word abcdefghijklm 1 1;", 2, 17);
        check.bad("name abcdefghijklm;", 2, 17);
        check.bad("end abcdefghijklm a 1 1;", 5, 16);
        check.bad("end abcdefghijkl abcdefghijklm 1 1;", 2, 29);
        check.bad("abcdefghijklm", 2, 0);
        check.good("end abcdefghijklABCDEFGHIJKL 1 1;", 0);
        check.bad("wordabcdefgh a 1 1;", 2, 0);
    }

    /** "numbers (1 to 6 digits)", "each is as long as can be": a 7th digit begins another. */
    private void numbersOfSix() {
        check.good("word a 7 1;", 1);
        check.good("word a 00007 00001;", 1);
        check.good("word a 000007 000001 since 000000 until 100000;", 1);
        check.good("pair 000007 000006 000099; bar 000007 000007; bare 000007 000099;", 0);
        // seven digits: a number of six and one of one
        check.good("word a 0000055;", 1);
        MarkBench x = new MarkBench();
        Check.book(x, "word a 00000075;");
        check.due("kind of six digits", x.entry(0, 0), 0);
        check.due("cost of the seventh on", x.entry(0, 1), 75);
        check.bad("word a 0000001 2;", 2, 15);
        check.bad("word a 1 0000001;", 2, 15);
        check.bad("word a 1 1 since 1000000;", 2, 23);
        check.bad("word a 1 1 until 0000001;", 2, 23);
        check.bad("bar 1 0000001;", 2, 12);
        check.bad("bare 1 0000001;", 2, 13);
        check.bad("pair 1 1 0000001;", 2, 15);
        check.bad("word a 1234567 1;", 4, 7);
        check.bad("word a 999999 1;", 4, 7);
    }

    /** "blanks (32, 10)": 9, 11, 13, 31, 33 and the like are none. */
    private void blanks() {
        for (int c : new int[] {0, 8, 9, 11, 12, 13, 31, 33, 127, 128, 160, 255}) {
            check.bad("word" + (char) c + "a 1 1;", 1, 4);
            check.bad((char) c + "word a 1 1;", 1, 0);
            check.bad("word a 1 1;" + (char) c, 1, 11);
        }
        for (String blank : new String[] {" ", "\n", "  ", "\n\n", " \n ", "\n \n"}) {
            check.good(blank + "word a 1 1;".replace(" ", blank) + blank, 1);
            check.good("end a A 1 1; name b;".replace(" ", blank), 0);
        }
    }

    /** "blanks part them or not": no blank is needed where two tokens do not run into one. */
    private void partedOrNot() {
        check.good("word a1 2;word b1 2 since3 until4;end a A1 2;name c;pair1 2 3;bar2 2;bare1 2;", 2);
        check.good("word a 1 2 ;name b ;", 1);
        check.bad("worda 1 2;", 2, 0);
        check.bad("word a 12;", 4, 7);
        check.bad("word a 1 2since 3;", 1, 10);
        check.bad("end aA 1 2;", 2, 7);
        check.bad("pair 12 3;", 4, 5);
        check.bad("bar 1 2;namea;", 2, 8);
        check.bad("bare1;", 2, 5);
        check.good("bar 0 0;bare 0 0;", 0);
    }

    /** "no letter directly behind a number": it is no token, at its own place. */
    private void noLetterBehindANumber() {
        check.bad("word a 1a 1;", 1, 8);
        check.bad("word a 1A 1;", 1, 8);
        check.bad("word a 1 1z", 1, 10);
        check.bad("word a 1 1Z;", 1, 10);
        check.bad("word a 1 1 since 3until 4;", 1, 18);
        check.bad("word a 1 000001s", 1, 15);
        check.bad("1name a;", 2, 0);
        check.good("word a 1 1 since 3 until 4;", 1);
        check.good("word a 1 1 since 3\nuntil 4;", 1);
        check.good("bar 1 1;name a;", 0);
        check.bad("word a 9a 1;", 4, 7);
    }

    /** "word end name pair bar bare since until are FORMS, too, where a FORM is asked." */
    private void keywordsAreForms() {
        for (String keyword : KEYWORDS) {
            String marked = keyword.toUpperCase();
            check.good("word " + keyword + " 1 1;", 1);
            check.good("word " + keyword + " 1 1 since 1 until 2;", 1);
            check.good("name " + keyword + ";", 0);
            check.good("end " + keyword + " " + marked + " 1 1;", 0);
            check.good("end " + marked + " " + keyword + " 1 1;", 0);
            MarkBench x = Check.bench("word " + marked + " 1 1;", 0, keyword);
            check.due("the word " + keyword, x.reading(0, 0, 4), 0);
            check.due("letters of " + keyword, x.entry(0, 3), keyword.length());
        }
        check.good("word word 1 1;word end 1 1;word name 1 1;word pair 1 1;word bar 1 1;word bare 1 1;word since 1 1;"
                + "word until 1 1;", 8);
        check.good("end end End 1 1;", 0);
    }

    /** At a place: the least and the most are right, one more can't be. */
    private void numbersUpTo(String[] places, int most) {
        for (String line : places) {
            int words = words(line);
            int place = line.indexOf('#');
            check.good(line.replace("#", "0"), words);
            check.good(line.replace("#", "" + (most - 1)), words);
            check.good(line.replace("#", "" + most), words);
            check.bad(line.replace("#", "" + (most + 1)), 4, place);
            check.bad(line.replace("#", "999999"), 4, place);
            check.bad(line.replace("#", "-1"), 1, place);
            check.bad("name zz;" + line.replace("#", "" + (most + 1)), 4, place + 8);
        }
    }

    /** "KIND 0 .. 7." */
    private void kinds() {
        numbersUpTo(KIND_PLACES, 7);
        for (int kind = 0; kind <= 7; kind++) {
            MarkBench x = Check.bench("word a " + kind + " 1; end b B " + kind + " 2; bare " + kind + " 3;", 0, "a b c");
            check.due("entry's kind", x.entry(0, 0), kind);
            check.due("a word's kind", x.reading(0, 0, 0), kind);
            check.due("an end's kind", x.reading(1, 0, 0), kind);
            check.due("bare's kind", x.reading(2, 0, 0), kind);
            check.due("bare's kind behind an end", x.reading(1, 1, 0), kind);
        }
    }

    /** "COST 0 .. 99." */
    private void costs() {
        numbersUpTo(COST_PLACES, 99);
        for (int cost : new int[] {0, 1, 50, 98, 99}) {
            MarkBench x = Check.bench("word a 1 " + cost + "; end b B 1 " + cost + "; bare 1 " + cost + "; pair 1 1 " + cost
                    + ";", 0, "a b c");
            check.due("entry's cost", x.entry(0, 1), cost);
            check.due("a word's cost", x.reading(0, 0, 1), cost);
            check.due("an end's cost", x.reading(1, 0, 1), cost);
            check.due("bare's cost", x.reading(2, 0, 1), cost);
            check.due("with two pairs", x.best(), 5 * cost);
        }
    }

    /** "DAY 0 .. 100000." */
    private void days() {
        numbersUpTo(DAY_PLACES, 100000);
        MarkBench x = Check.bench("word a 1 1 since 100000; word b 1 1 until 0; word c 1 1 since 99999 until 1;", 0, "a b");
        check.due("since", x.entry(0, 4), 100000);
        check.due("until", x.entry(1, 5), 0);
        check.due("since may be behind until", x.entry(2, 4) - x.entry(2, 5), 99998);
        check.due("a on day 0", x.reading(0, 0, 4), -1);
        check.due("b on day 0", x.reading(1, 0, 4), 1);
        Check.line(x, 100000, "a b c");
        check.due("a on day 100000", x.reading(0, 0, 4), 0);
        check.due("b on day 100000", x.reading(1, 0, 4), -1);
        check.due("c on no day", x.reading(2, 0, 4), -1);
    }

    private static String many(int times, String ahead, String behind) {
        StringBuilder text = new StringBuilder();
        for (int k = 0; k < times; k++) {
            text.append(ahead).append((char) ('a' + k % 26)).append((char) ('a' + k / 26)).append(behind);
        }
        return text.toString();
    }

    /** "At most 80 words"; "too many of a sort: at its first word". */
    private void eightyWords() {
        check.good(many(79, "word ", " 1 1;"), 79);
        String eighty = many(80, "word ", " 1 1;");
        check.good(eighty, 80);
        check.good(eighty + "end a A 1 1;name a;pair 1 1 1;bar 1 2;bare 1 1;", 80);
        check.bad(many(81, "word ", " 1 1;"), 2, eighty.length());
        check.bad(eighty + "word", 2, eighty.length());
        check.bad(eighty + " word zz 8 1;", 2, eighty.length() + 1);
        check.bad(eighty + "\n\nword $", 2, eighty.length() + 2);
        check.bad(eighty + "$ word", 1, eighty.length());
        MarkBench x = new MarkBench();
        Check.book(x, eighty);
        Check.line(x, 0, "bd cd");
        check.due("the last but one that stands", x.reading(0, 0, 4), 79);
        check.due("the one behind is not there", x.reading(1, 0, 4), -1);
    }

    /** "20 ends". */
    private void twentyEnds() {
        check.good(many(19, "end x X 1 1;name ", ";"), 0);
        String twenty = "end x X 1 1;".repeat(20);
        for (int count = 18; count <= 20; count++) {
            MarkBench x = new MarkBench();
            Check.book(x, "end x X 1 1;".repeat(count));
            check.due("ends", x.about(1), count);
        }
        check.good(twenty + "name a;word a 1 1;", 1);
        check.bad(twenty + "end x X 1 1;", 2, 240);
        check.bad(twenty + " end", 2, 241);
        check.bad(twenty + "end a b 9 1;", 2, 240);
        MarkBench x = Check.bench("end x X 1 1;".repeat(19) + "end y Y 1 1;", 0, "xy");
        check.same("by the twentieth", Check.spelling(x, 0, 0), "xY");
    }

    /** "20 names". */
    private void twentyNames() {
        String twenty = many(20, "name ", ";");
        for (int count = 18; count <= 20; count++) {
            MarkBench x = new MarkBench();
            Check.book(x, many(count, "name ", ";"));
            check.due("names", x.about(2), count);
        }
        check.good(twenty + "end a A 1 1;word a 1 1;", 1);
        check.bad(twenty + "name zz;", 2, 160);
        check.bad(twenty + "name aa;", 2, 160);
        check.bad(twenty + "\nname", 2, 161);
        MarkBench x = Check.bench(twenty, 0, "TA UA");
        check.due("the twentieth", x.reading(0, 0, 0), 7);
        check.due("no name", x.reading(1, 0, 0), 0);
    }

    private static String pairsAndBars(int count, int bars) {
        StringBuilder text = new StringBuilder();
        for (int k = 0; k < count; k++) {
            text.append(k < bars ? "bar " : "pair ").append(k / 8).append(' ').append(k % 8).append(k < bars ? ";" : " 1;");
        }
        return text.toString();
    }

    /** "40 pairs and bars together". */
    private void fortyPairsAndBars() {
        for (int bars : new int[] {0, 1, 20, 39, 40}) {
            for (int count = 39; count <= 40; count++) {
                MarkBench x = new MarkBench();
                check.due("a book of pairs and bars", Check.book(x, pairsAndBars(count, bars)), 0);
                check.due("pairs and bars", x.about(3), count);
            }
            String forty = pairsAndBars(40, bars);
            check.bad(forty + "pair 7 7 1;", 2, forty.length());
            check.bad(forty + "bar 7 7;", 2, forty.length());
            check.bad(forty + "pair 0 0 1;", 2, forty.length());
            check.bad(forty + "bar 9 9;", 2, forty.length());
            check.bad(forty + " pair", 2, forty.length() + 1);
            check.good(forty + "bare 1 1;", 0);
        }
    }

    /** "one bare". */
    private void oneBare() {
        check.good("", 0);
        check.good("bare 1 1;", 0);
        check.bad("bare 1 1;bare 1 1;", 2, 9);
        check.bad("bare 1 1; bare 2 2;", 2, 10);
        check.bad("bare 1 1;bare 9 1;", 2, 9);
        check.bad("bare 1 1;bare", 2, 9);
        check.bad("bare 0 50;name a;bare 0 50;", 2, 17);
    }

    /** "An end's two FORMS are BARE alike, as long"; "5 an end's second FORM that is not alike the first". */
    private void endsAreAlike() {
        check.good("end ab ab 1 1;end ab aB 1 1;end Ab ab 1 1;end AB ab 1 1;end aB Ab 1 1;", 0);
        check.bad("end ab a 1 1;", 5, 7);
        check.bad("end ab abc 1 1;", 5, 7);
        check.bad("end ab abb 1 1;", 5, 7);
        check.bad("end ab ac 1 1;", 5, 7);
        check.bad("end ab bb 1 1;", 5, 7);
        check.bad("end ab BA 1 1;", 5, 7);
        check.bad("end abcdefghijkl ABCDEFGHIJK 1 1;", 5, 17);
        check.bad("end abcdefghijk ABCDEFGHIJKL 1 1;", 5, 16);
        check.bad("end abcdefghijkl ABCDEFGHIJKM 1 1;", 5, 17);
        check.good("end abcdefghijkl ABCDEFGHIJKL 1 1;", 0);
        check.bad("end a\nb\n1 1;", 5, 6);
    }

    /** "bytes from 0; the end: the text's length". */
    private void faultPlaces() {
        check.bad("$", 1, 0);
        check.bad(" $", 1, 1);
        check.bad(";", 2, 0);
        check.bad("name", 2, 4);
        check.bad("name ", 2, 5);
        check.bad("name a", 2, 6);
        check.bad("name a\n\n", 2, 8);
        check.bad("name a;name", 2, 11);
        MarkBench x = new MarkBench();
        Check.book(x, " ".repeat(1995) + "word ");
        check.due("the end of 2000 bytes", x.fault(1), 2000);
    }

    /** "1 no TOKEN", "at one place the least": it can't stand there either, but 1 is told, not 2; in and behind each token. */
    private void noToken() {
        for (String[] line : LINES) {
            for (int k = 0; k < line.length; k++) {
                String ahead = String.join(" ", java.util.Arrays.copyOf(line, k)) + (k == 0 ? "" : " ");
                for (char c : "$=,_\t\r\0\u00e9".toCharArray()) {
                    check.bad(ahead + c, 1, ahead.length());
                    check.bad(ahead + line[k] + c, 1, ahead.length() + line[k].length());
                }
            }
        }
    }

    /** "3 a FORM and KIND that is told already as a word, at its first FORM". */
    private void toldAsWord() {
        check.bad("word ab 1 1;word ab 1 1;", 3, 17);
        check.bad("word ab 1 1;word ab 1 2 since 5;", 3, 17);
        check.bad("word ab 1 1 until 3;word ab 1 1 since 4;", 3, 25);
        check.bad("word ab 1 1;word ab 000001 1;", 3, 17);
        check.bad("word ab 7 1;word b 7 1;word ab 7 1;", 3, 28);
        check.good("word ab 1 1;word ab 2 1;word ab 0 1;", 3);
        check.good("word ab 1 1;word Ab 1 1;word aB 1 1;word AB 1 1;", 4);
        check.good("word ab 1 1;word a 1 1;word abc 1 1;word b 1 1;", 4);
        check.good("word ab 1 1;name ab;end ab ab 1 1;", 1);
        String last = many(79, "word ", " 1 1;");
        check.bad(last + "word aa 1 1;", 3, last.length() + 5);
        check.bad(last + "word ad 1 1;", 3, last.length() + 5);
    }

    /** "a name told already (by its BARE)". */
    private void toldAsName() {
        check.bad("name ab;name ab;", 3, 13);
        check.bad("name ab;name AB;", 3, 13);
        check.bad("name aB;name  Ab", 3, 14);
        check.good("name ab;name a;name b;name abc;name ba;", 0);
        check.good("word ab 1 1;end ab ab 1 1;name ab;", 1);
        String last = many(19, "name ", ";");
        check.bad(last + "name AA;", 3, last.length() + 5);
        check.bad(last + "name sa;", 3, last.length() + 5);
    }

    /** "a pair of KINDS told already (as pair or bar), at its first number". */
    private void toldAsPair() {
        String[] sorts = {"pair", "bar"};
        for (String one : sorts) {
            for (String other : sorts) {
                String first = one + " 3 4" + (one.equals("pair") ? " 1;" : ";");
                String behind = other.equals("pair") ? " 1;" : ";";
                int place = first.length() + other.length() + 1;
                check.bad(first + other + " 3 4" + behind, 3, place);
                check.bad(first + other + " 03 04" + behind, 3, place);
                check.bad(first + other + " 3 4", 3, place);
                check.good(first + other + " 4 3" + behind, 0);
                check.good(first + other + " 3 3" + behind, 0);
                check.good(first + other + " 4 4" + behind, 0);
            }
        }
        check.bad("pair 0 0 1;pair 7 7 1;bar 0 0;", 3, 26);
        check.bad("pair 0 0 1;pair 7 7 1;bar 7 7;", 3, 26);
        check.good("pair 0 7 1;pair 7 0 1;bar 0 0;bar 7 7;", 0);
    }

    /** "FAULTS, the first by its place". */
    private void firstByPlace() {
        check.bad("word ab 1 1;word ab 1 100;", 3, 17);
        check.bad("word ab 1 1;word ab 1 x;", 3, 17);
        check.bad("word ab 1 1;word ab 1", 3, 17);
        check.bad("word ab 1 1;word ab 1 $", 3, 17);
        check.bad("word ab 1 1;word ab 1x", 3, 17);
        check.bad("word ab 1 1;word ab 8 1;", 4, 20);
        check.bad("word ab 1 1;word ab x", 2, 20);
        check.bad("word ab 1 1;word ab $", 1, 20);
        check.bad("word ab 1 1;word ab", 2, 19);
        check.bad("name ab;name AB", 3, 13);
        check.bad("name ab;name AB$", 3, 13);
        check.bad("pair 1 1 1;pair 1 1 100;", 3, 16);
        check.bad("pair 1 1 1;pair 1 1 x", 3, 16);
        check.bad("pair 1 1 1;bar 1 1 $", 3, 15);
        check.bad("pair 1 1 1;bar 1 8;", 4, 17);
        check.bad("pair 1 1 1;bar 8 1;", 4, 15);
        check.bad("end ab ac 8 1;", 5, 7);
        check.bad("end ab ac $", 5, 7);
        check.bad("end ab $", 1, 7);
        check.bad("end ab 1", 2, 7);
        check.bad("word a 8 100;word", 4, 7);
        check.bad("word a 8 $", 4, 7);
        check.bad("word a 1 100 $", 4, 9);
        check.bad("bare 1 1;bare 8 $", 2, 9);
        check.bad("name a; $ word a 8 1;", 1, 8);
        check.bad("name a; x $", 2, 8);
    }
}
