import java.util.Arrays;

/** A bench that puts marks back into lines that lost them. The document's promises are its methods. */
public final class MarkBench {
    public static final int NONE = -1;

    private static final int NO_WAY = -2;
    private static final int REFUSED = -2;

    private static final int MOST_TAPE = 2000;
    private static final int FED = 20;
    private static final int MOST_LINE = 200;
    private static final int MOST_WORDS = 14;
    private static final int MOST_LETTERS = 12;
    private static final int MOST_READINGS = 12;
    private static final int SLOTS = MOST_WORDS * MOST_READINGS;
    private static final int MOST_HANDS = 60;
    private static final int MOST_ENTRIES = 80;
    private static final int MOST_ENDS = 20;
    private static final int MOST_NAMES = 20;
    private static final int MOST_PAIRS = 40;
    private static final int KINDS = 8;
    private static final int KEPT_KIND = 7;
    private static final int LAST_KIND = 7;
    private static final int LAST_COST = 99;
    private static final int LAST_DAY = 100000;
    private static final int LAST_METRE = 400;
    private static final int LAST_GAP = 100;
    private static final int BLANK = 32;
    private static final int NEW_LINE = 10;

    /** Above every sum of costs, and low enough that three of them still fit an int. */
    private static final int FAR = 1000000;

    private final char[] tape = new char[MOST_TAPE];
    private final BookReader reader = new BookReader(tape);
    private final Hands hands = new Hands();
    private final Choices choices = new Choices();
    private final Sheet sheet = new Sheet(choices);
    private int tapeLength = 0;
    private Book book = new Book();
    private Line line = new Line();
    private Line spareLine = new Line();
    private int faultKind = 0;
    private int faultAt = NONE;
    private int metre = NONE;

    public MarkBench() {
        refresh();
    }

    public int feed(int a, int b, int c, int d, int e) {
        if (tapeLength + FED > MOST_TAPE) {
            return NONE;
        }
        putOnTape(a);
        putOnTape(b);
        putOnTape(c);
        putOnTape(d);
        putOnTape(e);
        return tapeLength;
    }

    public int end(int n) {
        if (n < 0 || n > tapeLength) {
            return NONE;
        }
        tapeLength = n;
        return n;
    }

    public int book() {
        boolean sound = reader.read(tapeLength);
        faultKind = reader.fault;
        faultAt = reader.faultAt;
        if (!sound) {
            return NONE;
        }
        Book old = book;
        book = reader.book;
        reader.book = old;
        tapeLength = 0;
        line.clear();
        hands.clear();
        refresh();
        return book.words.count;
    }

    public int line(int day) {
        if (day < 0 || day > LAST_DAY || tapeLength > MOST_LINE) {
            return REFUSED;
        }
        faultAt = spareLine.read(tape, tapeLength, day);
        faultKind = faultAt == NONE ? 0 : 1;
        if (faultAt != NONE) {
            return NONE;
        }
        Line old = line;
        line = spareLine;
        spareLine = old;
        tapeLength = 0;
        hands.leaveLine();
        refresh();
        return line.words;
    }

    public int fault(int what) {
        switch (what) {
            case 0:
                return faultKind;
            case 1:
                return faultAt;
            default:
                return NONE;
        }
    }

    public boolean metre(int weight) {
        if (weight != NONE && (weight < 0 || weight > LAST_METRE)) {
            return false;
        }
        metre = weight;
        sheet.forget(book.pairCosts, metre);
        return true;
    }

    public int readings(int word) {
        return choices.hasWord(word) ? choices.counts[word] : NONE;
    }

    public int reading(int word, int reading, int what) {
        int slot = choices.slotOf(word, reading);
        if (slot == NONE) {
            return NONE;
        }
        switch (what) {
            case 0:
                return choices.kinds[slot];
            case 1:
                return choices.costs[slot];
            case 2:
                return choices.bareWeights[word] + choices.gains[slot];
            case 3:
                return choices.spellings.lengths[slot];
            case 4:
                return choices.entries[slot];
            case 5:
                return sheet.costThrough(slot);
            default:
                return NONE;
        }
    }

    public int letter(int word, int reading, int k) {
        int slot = choices.slotOf(word, reading);
        if (slot == NONE || k < 0 || k >= choices.spellings.lengths[slot]) {
            return NONE;
        }
        return choices.spellings.letterAt(slot, k);
    }

    public int best() {
        return sheet.hasWay() ? sheet.least : NO_WAY;
    }

    public int choice(int word) {
        return choices.hasWord(word) && sheet.hasWay() ? sheet.chosen[word] : NONE;
    }

    public long ways(int gap) {
        if (!isGap(gap)) {
            return NONE;
        }
        return sheet.hasWay() ? sheet.waysWithin(gap) : 0;
    }

    public int sure(int word, int gap) {
        if (!choices.hasWord(word) || !isGap(gap) || !sheet.hasWay()) {
            return NONE;
        }
        return sheet.isSure(word, gap) ? 1 : 0;
    }

    public int text(int gap, int k) {
        if (!isGap(gap) || k < 0 || k >= line.length) {
            return NONE;
        }
        int word = line.wordAt(k);
        if (word == NONE || !sheet.hasWay() || !sheet.isSure(word, gap)) {
            return line.text[k];
        }
        return choices.spellings.letterAt(sheet.firstNear(word, gap), k - line.starts[word]);
    }

    public int settle(int word, int reading) {
        int slot = choices.slotOf(word, reading);
        if (slot == NONE || choices.entries[slot] == NONE || hands.count >= MOST_HANDS) {
            return NONE;
        }
        int entry = choices.entries[slot];
        book.learnt[entry]++;
        int hand = hands.add(word, entry);
        refresh();
        return hand;
    }

    public boolean back(int hand) {
        if (!hands.stands(hand)) {
            return false;
        }
        hands.taken[hand] = true;
        book.learnt[hands.entries[hand]]--;
        refresh();
        return true;
    }

    public int ask(int gap) {
        return isGap(gap) && sheet.hasWay() ? sheet.askedFirst(gap) : NONE;
    }

    public int entry(int k, int what) {
        if (k < 0 || k >= book.words.count) {
            return NONE;
        }
        switch (what) {
            case 0:
                return book.kinds[k];
            case 1:
                return book.costs[k];
            case 2:
                return book.learnt[k];
            case 3:
                return book.words.lengths[k];
            case 4:
                return book.since[k];
            case 5:
                return book.until[k];
            default:
                return NONE;
        }
    }

    public int about(int what) {
        switch (what) {
            case 0:
                return book.words.count;
            case 1:
                return book.ends.count;
            case 2:
                return book.names.count;
            case 3:
                return book.pairCount;
            case 4:
                return line.words;
            case 5:
                return line.length;
            case 6:
                return line.day;
            case 7:
                return metre;
            case 8:
                return hands.count;
            case 9:
                return tapeLength;
            default:
                return NONE;
        }
    }

    private static boolean isGap(int gap) {
        return gap >= 0 && gap <= LAST_GAP;
    }

    private void putOnTape(int number) {
        for (int shift = 24; shift >= 0 && tapeLength < MOST_TAPE; shift -= 8) {
            tape[tapeLength] = (char) (number >>> shift & 255);
            tapeLength++;
        }
    }

    /** What is learnt changes costs of every word of the line, so all of them are read anew. */
    private void refresh() {
        choices.words = line.words;
        for (int word = 0; word < line.words; word++) {
            choices.fill(word, line, book, hands.standing(word));
        }
        sheet.forget(book.pairCosts, metre);
    }

    /** What a byte is, and how letters compare. */
    private static final class Letters {
        private static final String VOWELS = "aeiouAEIOU";
        /** The bit by which a letter and the MARKED one differ. */
        private static final int MARK = 32;

        static boolean isMarked(char c) {
            return c >= 'A' && c <= 'Z';
        }

        static boolean isLetter(char c) {
            return c >= 'a' && c <= 'z' || c >= 'A' && c <= 'Z';
        }

        static boolean isDigit(char c) {
            return c >= '0' && c <= '9';
        }

        static boolean isVowel(char c) {
            return VOWELS.indexOf(c) >= 0;
        }

        /** Whether letters, of both there is nothing else, are BARE alike. */
        static boolean areAlike(char[] one, int oneAt, char[] other, int otherAt, int length) {
            for (int k = 0; k < length; k++) {
                if ((one[oneAt + k] | MARK) != (other[otherAt + k] | MARK)) {
                    return false;
                }
            }
            return true;
        }

        static boolean areSame(char[] one, int oneAt, char[] other, int otherAt, int length) {
            for (int k = 0; k < length; k++) {
                if (one[oneAt + k] != other[otherAt + k]) {
                    return false;
                }
            }
            return true;
        }

        /** Whether the one has each letter MARKED that is so in the other. */
        static boolean keepsMarks(char[] one, int oneAt, char[] other, int otherAt, int length) {
            for (int k = 0; k < length; k++) {
                if (isMarked(other[otherAt + k]) && !isMarked(one[oneAt + k])) {
                    return false;
                }
            }
            return true;
        }
    }

    /** Spellings of at most twelve letters, by number. */
    private static final class Forms {
        final char[] letters;
        final int[] lengths;
        int count = 0;

        Forms(int most) {
            letters = new char[most * MOST_LETTERS];
            lengths = new int[most];
        }

        void put(int index, char[] text, int at, int length) {
            System.arraycopy(text, at, letters, index * MOST_LETTERS, length);
            lengths[index] = length;
        }

        void add(char[] text, int at, int length) {
            if (count < lengths.length) {
                put(count, text, at, length);
                count++;
            }
        }

        int startOf(int index) {
            return index * MOST_LETTERS;
        }

        char letterAt(int index, int k) {
            return letters[startOf(index) + k];
        }

        boolean isSpelled(int index, char[] text, int at, int length) {
            return lengths[index] == length && Letters.areSame(letters, startOf(index), text, at, length);
        }

        boolean isAlike(int index, char[] text, int at, int length) {
            return lengths[index] == length && Letters.areAlike(letters, startOf(index), text, at, length);
        }
    }

    /** What a book's text tells, and how often each of its words was settled. */
    private static final class Book {
        private static final int UNTOLD_BARE_KIND = 0;
        private static final int UNTOLD_BARE_COST = 50;

        final Forms words = new Forms(MOST_ENTRIES);
        final int[] kinds = new int[MOST_ENTRIES];
        final int[] costs = new int[MOST_ENTRIES];
        final int[] since = new int[MOST_ENTRIES];
        final int[] until = new int[MOST_ENTRIES];
        final int[] learnt = new int[MOST_ENTRIES];
        /** The second forms alone: the first ones are bare alike, and nothing asks for their marks. */
        final Forms ends = new Forms(MOST_ENDS);
        final int[] endKinds = new int[MOST_ENDS];
        final int[] endCosts = new int[MOST_ENDS];
        final Forms names = new Forms(MOST_NAMES);
        /** By both kinds: 0 where nothing is told, FAR where a bar is, so that a sum alone finds it out. */
        final int[] pairCosts = new int[KINDS * KINDS];
        final boolean[] pairTold = new boolean[KINDS * KINDS];
        int pairCount = 0;
        boolean bareTold = false;
        int bareKind = UNTOLD_BARE_KIND;
        int bareCost = UNTOLD_BARE_COST;

        void clear() {
            words.count = 0;
            ends.count = 0;
            names.count = 0;
            pairCount = 0;
            Arrays.fill(pairCosts, 0);
            for (int k = 0; k < pairTold.length; k++) {
                pairTold[k] = false;
            }
            bareTold = false;
            bareKind = UNTOLD_BARE_KIND;
            bareCost = UNTOLD_BARE_COST;
        }

        boolean hasWord(char[] text, int at, int length, int kind) {
            for (int k = 0; k < words.count; k++) {
                if (kinds[k] == kind && words.isSpelled(k, text, at, length)) {
                    return true;
                }
            }
            return false;
        }

        boolean hasName(char[] text, int at, int length) {
            for (int k = 0; k < names.count; k++) {
                if (names.isAlike(k, text, at, length)) {
                    return true;
                }
            }
            return false;
        }

        boolean isInForce(int k, int day) {
            return since[k] <= day && day <= until[k];
        }

        int costOf(int k) {
            return Math.max(0, costs[k] - learnt[k]);
        }

        void tellPair(int pair, int cost) {
            pairTold[pair] = true;
            pairCosts[pair] = cost;
            pairCount++;
        }
    }

    /** A book's text as tokens; the last is the text's end, or what is no token. */
    private static final class Tokens {
        static final int FORM = 0;
        static final int NUMBER = 1;
        static final int SIGN = 2;
        static final int TEXT_END = 3;
        static final int NO_TOKEN = 4;

        private static final int MOST_DIGITS = 6;

        final int[] sorts = new int[MOST_TAPE + 1];
        final int[] places = new int[MOST_TAPE + 1];
        final int[] lengths = new int[MOST_TAPE + 1];
        final int[] values = new int[MOST_TAPE + 1];
        int count = 0;

        void split(char[] text, int textLength) {
            count = 0;
            int at = 0;
            int numberEnd = NONE;
            for (int steps = 0; steps < textLength && at < textLength; steps++) {
                char c = text[at];
                if (c == BLANK || c == NEW_LINE) {
                    at++;
                } else if (Letters.isLetter(c) && at != numberEnd) {
                    at = addForm(text, at, textLength);
                } else if (Letters.isDigit(c)) {
                    at = addNumber(text, at, textLength);
                    numberEnd = at;
                } else if (c == ';') {
                    add(SIGN, at, 1, 0);
                    at++;
                } else {
                    add(NO_TOKEN, at, 1, 0);
                    return;
                }
            }
            add(TEXT_END, at, 0, 0);
        }

        private int addForm(char[] text, int at, int textLength) {
            int last = Math.min(textLength, at + MOST_LETTERS);
            int behind = at + 1;
            while (behind < last && Letters.isLetter(text[behind])) {
                behind++;
            }
            add(FORM, at, behind - at, 0);
            return behind;
        }

        private int addNumber(char[] text, int at, int textLength) {
            int last = Math.min(textLength, at + MOST_DIGITS);
            int behind = at;
            int value = 0;
            while (behind < last && Letters.isDigit(text[behind])) {
                value = value * 10 + (text[behind] - '0');
                behind++;
            }
            add(NUMBER, at, behind - at, value);
            return behind;
        }

        private void add(int sort, int at, int length, int value) {
            if (count <= MOST_TAPE) {
                sorts[count] = sort;
                places[count] = at;
                lengths[count] = length;
                values[count] = value;
                count++;
            }
        }
    }

    /** Reads a book's text, token by token, up to its first fault. */
    private static final class BookReader {
        private static final int FAULT_NO_TOKEN = 1;
        private static final int FAULT_MISPLACED = 2;
        private static final int FAULT_TOLD = 3;
        private static final int FAULT_NUMBER = 4;
        private static final int FAULT_UNLIKE = 5;

        int fault = 0;
        int faultAt = NONE;
        /** What is read goes here; it is of use only if there was no fault, and then another one takes its place. */
        Book book = new Book();
        private final char[] text;
        private final Tokens tokens = new Tokens();
        private int next = 0;
        private int sort = Tokens.TEXT_END;
        private int at = 0;
        private int length = 0;
        private int value = 0;

        BookReader(char[] tape) {
            text = tape;
        }

        boolean read(int textLength) {
            book.clear();
            tokens.split(text, textLength);
            fault = 0;
            faultAt = NONE;
            next = 0;
            for (int lines = 0; lines < tokens.count; lines++) {
                advance();
                if (sort == Tokens.TEXT_END) {
                    return true;
                }
                if (!readLine()) {
                    return false;
                }
            }
            return true;
        }

        private boolean readLine() {
            if (isWord("word")) {
                return readWord();
            }
            if (isWord("end")) {
                return readEnd();
            }
            if (isWord("name")) {
                return readName();
            }
            if (isWord("pair")) {
                return readPair(true);
            }
            if (isWord("bar")) {
                return readPair(false);
            }
            if (isWord("bare")) {
                return readBare();
            }
            return misplaced();
        }

        private boolean readWord() {
            int entry = book.words.count;
            if (entry >= MOST_ENTRIES) {
                return misplaced();
            }
            if (!takeForm()) {
                return false;
            }
            int formAt = at;
            int formLength = length;
            if (!takeNumber(LAST_KIND)) {
                return false;
            }
            if (book.hasWord(text, formAt, formLength, value)) {
                return refuse(FAULT_TOLD, formAt);
            }
            book.kinds[entry] = value;
            if (!takeNumber(LAST_COST)) {
                return false;
            }
            book.costs[entry] = value;
            book.learnt[entry] = 0;
            if (!readDays(entry)) {
                return false;
            }
            book.words.add(text, formAt, formLength);
            return true;
        }

        private boolean readDays(int entry) {
            book.since[entry] = 0;
            book.until[entry] = LAST_DAY;
            advance();
            if (isWord("since")) {
                if (!takeNumber(LAST_DAY)) {
                    return false;
                }
                book.since[entry] = value;
                advance();
            }
            if (isWord("until")) {
                if (!takeNumber(LAST_DAY)) {
                    return false;
                }
                book.until[entry] = value;
                advance();
            }
            return stands(Tokens.SIGN);
        }

        private boolean readEnd() {
            int index = book.ends.count;
            if (index >= MOST_ENDS) {
                return misplaced();
            }
            if (!takeForm()) {
                return false;
            }
            int firstAt = at;
            int firstLength = length;
            if (!takeForm()) {
                return false;
            }
            int secondAt = at;
            if (length != firstLength || !Letters.areAlike(text, firstAt, text, secondAt, firstLength)) {
                return refuse(FAULT_UNLIKE, secondAt);
            }
            if (!takeNumber(LAST_KIND)) {
                return false;
            }
            book.endKinds[index] = value;
            if (!takeNumber(LAST_COST)) {
                return false;
            }
            book.endCosts[index] = value;
            if (!takeSign()) {
                return false;
            }
            book.ends.add(text, secondAt, firstLength);
            return true;
        }

        private boolean readName() {
            if (book.names.count >= MOST_NAMES) {
                return misplaced();
            }
            if (!takeForm()) {
                return false;
            }
            int formAt = at;
            int formLength = length;
            if (book.hasName(text, formAt, formLength)) {
                return refuse(FAULT_TOLD, formAt);
            }
            if (!takeSign()) {
                return false;
            }
            book.names.add(text, formAt, formLength);
            return true;
        }

        private boolean readPair(boolean costs) {
            if (book.pairCount >= MOST_PAIRS) {
                return misplaced();
            }
            if (!takeNumber(LAST_KIND)) {
                return false;
            }
            int firstAt = at;
            int pair = value * KINDS;
            if (!takeNumber(LAST_KIND)) {
                return false;
            }
            pair += value;
            if (book.pairTold[pair]) {
                return refuse(FAULT_TOLD, firstAt);
            }
            int cost = FAR;
            if (costs) {
                if (!takeNumber(LAST_COST)) {
                    return false;
                }
                cost = value;
            }
            if (!takeSign()) {
                return false;
            }
            book.tellPair(pair, cost);
            return true;
        }

        private boolean readBare() {
            if (book.bareTold) {
                return misplaced();
            }
            if (!takeNumber(LAST_KIND)) {
                return false;
            }
            book.bareKind = value;
            if (!takeNumber(LAST_COST)) {
                return false;
            }
            book.bareCost = value;
            book.bareTold = true;
            return takeSign();
        }

        private boolean takeForm() {
            advance();
            return stands(Tokens.FORM);
        }

        private boolean takeSign() {
            advance();
            return stands(Tokens.SIGN);
        }

        private boolean takeNumber(int most) {
            advance();
            if (sort != Tokens.NUMBER) {
                return misplaced();
            }
            return value <= most || refuse(FAULT_NUMBER, at);
        }

        private boolean stands(int asked) {
            return sort == asked || misplaced();
        }

        private boolean misplaced() {
            fault = sort == Tokens.NO_TOKEN ? FAULT_NO_TOKEN : FAULT_MISPLACED;
            faultAt = at;
            return false;
        }

        private boolean refuse(int kind, int place) {
            fault = kind;
            faultAt = place;
            return false;
        }

        private boolean isWord(String word) {
            if (sort != Tokens.FORM || length != word.length()) {
                return false;
            }
            for (int k = 0; k < length; k++) {
                if (text[at + k] != word.charAt(k)) {
                    return false;
                }
            }
            return true;
        }

        /** The last token stays, however often it is passed: nothing can stand behind it. */
        private void advance() {
            if (next < tokens.count) {
                sort = tokens.sorts[next];
                at = tokens.places[next];
                length = tokens.lengths[next];
                value = tokens.values[next];
                next++;
            }
        }
    }

    /** A line's text and where its words stand in it. */
    private static final class Line {
        final char[] text = new char[MOST_LINE];
        final int[] starts = new int[MOST_WORDS];
        final int[] lengths = new int[MOST_WORDS];
        final boolean[] kept = new boolean[MOST_WORDS];
        int length = 0;
        int words = 0;
        int day = 0;

        void clear() {
            length = 0;
            words = 0;
        }

        /** The place of the first byte that can't be, or NONE; then alone what is held here is of use. */
        int read(char[] from, int fromLength, int ofDay) {
            clear();
            day = ofDay;
            int run = 0;
            boolean keeps = false;
            for (int k = 0; k < fromLength; k++) {
                char c = from[k];
                if (Letters.isLetter(c)) {
                    if (run == MOST_LETTERS || run == 0 && words == MOST_WORDS) {
                        return k;
                    }
                    if (run == 0) {
                        begin(k, keeps);
                    }
                    run++;
                    lengths[words - 1] = run;
                    keeps = false;
                } else if (keeps) {
                    return k;
                } else if (c == BLANK) {
                    run = 0;
                } else if (c == '=' && run == 0) {
                    keeps = true;
                } else {
                    return k;
                }
            }
            if (keeps || fromLength > MOST_LINE) {
                return fromLength;
            }
            System.arraycopy(from, 0, text, 0, fromLength);
            length = fromLength;
            return NONE;
        }

        private void begin(int at, boolean keeps) {
            starts[words] = at;
            kept[words] = keeps;
            words++;
        }

        int wordAt(int k) {
            for (int word = 0; word < words; word++) {
                if (k >= starts[word] && k < starts[word] + lengths[word]) {
                    return word;
                }
            }
            return NONE;
        }
    }

    /** What was settled, in order: the word of the line (NONE once the line is gone) and the book's word. */
    private static final class Hands {
        final int[] words = new int[MOST_HANDS];
        final int[] entries = new int[MOST_HANDS];
        final boolean[] taken = new boolean[MOST_HANDS];
        int count = 0;

        void clear() {
            count = 0;
        }

        void leaveLine() {
            for (int hand = 0; hand < count; hand++) {
                words[hand] = NONE;
            }
        }

        int add(int word, int entry) {
            if (count >= MOST_HANDS) {
                return NONE;
            }
            words[count] = word;
            entries[count] = entry;
            taken[count] = false;
            count++;
            return count - 1;
        }

        boolean stands(int hand) {
            return hand >= 0 && hand < count && !taken[hand];
        }

        int standing(int word) {
            for (int hand = count - 1; hand >= 0; hand--) {
                if (words[hand] == word && !taken[hand]) {
                    return entries[hand];
                }
            }
            return NONE;
        }
    }

    /** The readings of each word of the line; a reading's slot is its word's number times twelve and its own. */
    private static final class Choices {
        final int[] counts = new int[MOST_WORDS];
        /** A word's weight without marks: all its readings share it, so gains alone tell them apart. */
        final int[] bareWeights = new int[MOST_WORDS];
        final Forms spellings = new Forms(SLOTS);
        final int[] kinds = new int[SLOTS];
        final int[] costs = new int[SLOTS];
        final int[] gains = new int[SLOTS];
        final int[] entries = new int[SLOTS];
        private final char[] draft = new char[MOST_LETTERS];
        int words = 0;

        boolean hasWord(int word) {
            return word >= 0 && word < words;
        }

        int slotOf(int word, int reading) {
            if (!hasWord(word) || reading < 0 || reading >= counts[word]) {
                return NONE;
            }
            return word * MOST_READINGS + reading;
        }

        void fill(int word, Line line, Book book, int settled) {
            int at = line.starts[word];
            int length = line.lengths[word];
            counts[word] = 0;
            if (settled != NONE) {
                addEntry(word, book, settled);
            } else if (line.kept[word] || book.hasName(line.text, at, length)) {
                add(word, line.text, at, length, KEPT_KIND, 0);
            } else {
                fillByWords(word, line, book);
                if (counts[word] == 0) {
                    fillByEnds(word, line, book);
                }
            }
            weigh(word);
        }

        private void fillByWords(int word, Line line, Book book) {
            int at = line.starts[word];
            int length = line.lengths[word];
            Forms forms = book.words;
            for (int k = 0; k < forms.count && counts[word] < MOST_READINGS; k++) {
                if (forms.isAlike(k, line.text, at, length) && book.isInForce(k, line.day)
                        && Letters.keepsMarks(forms.letters, forms.startOf(k), line.text, at, length)) {
                    addEntry(word, book, k);
                }
            }
        }

        private void fillByEnds(int word, Line line, Book book) {
            int at = line.starts[word];
            int length = line.lengths[word];
            Forms ends = book.ends;
            for (int k = 0; k < ends.count; k++) {
                int tail = ends.lengths[k];
                int tailAt = at + length - tail;
                if (tail <= length && ends.isAlike(k, line.text, tailAt, tail)
                        && Letters.keepsMarks(ends.letters, ends.startOf(k), line.text, tailAt, tail)) {
                    System.arraycopy(line.text, at, draft, 0, length);
                    System.arraycopy(ends.letters, ends.startOf(k), draft, length - tail, tail);
                    if (isNew(word, draft, 0, length)) {
                        add(word, draft, 0, length, book.endKinds[k], book.endCosts[k]);
                    }
                }
            }
            if (isNew(word, line.text, at, length)) {
                add(word, line.text, at, length, book.bareKind, book.bareCost);
            }
        }

        private boolean isNew(int word, char[] text, int at, int length) {
            int first = word * MOST_READINGS;
            for (int slot = first; slot < first + counts[word]; slot++) {
                if (spellings.isSpelled(slot, text, at, length)) {
                    return false;
                }
            }
            return true;
        }

        private void addEntry(int word, Book book, int entry) {
            Forms forms = book.words;
            int slot = add(word, forms.letters, forms.startOf(entry), forms.lengths[entry],
                    book.kinds[entry], book.costOf(entry));
            if (slot != NONE) {
                entries[slot] = entry;
            }
        }

        private int add(int word, char[] text, int at, int length, int kind, int cost) {
            if (counts[word] >= MOST_READINGS) {
                return NONE;
            }
            int slot = word * MOST_READINGS + counts[word];
            counts[word]++;
            spellings.put(slot, text, at, length);
            kinds[slot] = kind;
            costs[slot] = cost;
            entries[slot] = NONE;
            return slot;
        }

        private void weigh(int word) {
            int first = word * MOST_READINGS;
            for (int slot = first; slot < first + counts[word]; slot++) {
                int vowels = 0;
                int marked = 0;
                for (int k = 0; k < spellings.lengths[slot]; k++) {
                    char c = spellings.letterAt(slot, k);
                    if (Letters.isVowel(c)) {
                        vowels++;
                        marked += Letters.isMarked(c) ? 1 : 0;
                    }
                }
                bareWeights[word] = vowels;
                gains[slot] = marked;
            }
        }

        boolean areSpelledAlike(int slot, int other) {
            return spellings.isSpelled(slot, spellings.letters, spellings.startOf(other), spellings.lengths[other]);
        }
    }

    /**
     * Least costs through the line, over states of a word's kind and the marked vowels up to it. The states of a
     * word reach from its lows to its highs: what neither the words ahead nor those behind can make up is left out.
     */
    private static final class Walk {
        /** Half of the words, at most, bear on a state from the side that narrows it more. */
        static final int SPAN = MOST_WORDS / 2 * MOST_LETTERS + 1;

        final Choices choices;
        final int[] lows = new int[MOST_WORDS];
        final int[] highs = new int[MOST_WORDS];
        final int[] gains = new int[SLOTS];
        int[] pairCosts = new int[KINDS * KINDS];
        private final int[] kindSets = new int[MOST_WORDS];
        /** By word, kind and marked vowels up to it: the least cost of all that is behind that word. */
        private final int[] rest = new int[MOST_WORDS * KINDS * SPAN];
        /** By kind and marked vowels of the word just passed: the least cost up to it. */
        private final int[] passed = new int[KINDS * SPAN];
        /** The same with the pair's cost to each kind of the word that comes. */
        private final int[] entering = new int[KINDS * SPAN];
        private boolean open = false;
        private int fixedWord = NONE;
        private int fixedReading = NONE;

        Walk(Choices choices) {
            this.choices = choices;
        }

        void prepare(int[] pairs, int metre) {
            pairCosts = pairs;
            int target = metre;
            for (int word = 0; word < choices.words; word++) {
                target -= choices.bareWeights[word];
                kindSets[word] = 0;
                int first = word * MOST_READINGS;
                for (int slot = first; slot < first + choices.counts[word]; slot++) {
                    gains[slot] = metre == NONE ? 0 : choices.gains[slot];
                    kindSets[word] |= 1 << choices.kinds[slot];
                }
            }
            bound(metre == NONE ? 0 : target);
        }

        private void bound(int target) {
            int least = 0;
            int most = 0;
            for (int word = 0; word < choices.words; word++) {
                least += leastGain(word);
                most += mostGain(word);
                lows[word] = least;
                highs[word] = most;
            }
            open = least <= target && target <= most;
            least = 0;
            most = 0;
            for (int word = choices.words - 1; word >= 0; word--) {
                lows[word] = Math.max(lows[word], target - most);
                highs[word] = Math.min(highs[word], target - least);
                least += leastGain(word);
                most += mostGain(word);
            }
        }

        private int leastGain(int word) {
            int least = MOST_LETTERS;
            for (int reading = 0; reading < choices.counts[word]; reading++) {
                least = Math.min(least, gains[word * MOST_READINGS + reading]);
            }
            return least;
        }

        private int mostGain(int word) {
            int most = 0;
            for (int reading = 0; reading < choices.counts[word]; reading++) {
                most = Math.max(most, gains[word * MOST_READINGS + reading]);
            }
            return most;
        }

        /**
         * The least cost of a way, FAR without one, and from offset on in through that of a way by each slot; with
         * a word, of the ways alone that take this reading of it.
         */
        int solve(int word, int reading, int[] through, int offset) {
            Arrays.fill(through, offset, offset + SLOTS, FAR);
            if (!open) {
                return FAR;
            }
            fixedWord = word;
            fixedReading = reading;
            walkBack();
            walkOn(through, offset);
            int least = FAR;
            for (int slot = 0; slot < MOST_READINGS; slot++) {
                least = Math.min(least, through[offset + slot]);
            }
            return least;
        }

        private int firstSlot(int word) {
            return word * MOST_READINGS + (word == fixedWord ? fixedReading : 0);
        }

        private int lastSlot(int word) {
            return word * MOST_READINGS + (word == fixedWord ? fixedReading : choices.counts[word] - 1);
        }

        boolean hasKind(int word, int kind) {
            return (kindSets[word] >> kind & 1) != 0;
        }

        private int stateOf(int word, int kind) {
            return (word * KINDS + kind) * SPAN - lows[word];
        }

        int restOf(int word, int kind, int marks) {
            if (marks < lows[word] || marks > highs[word]) {
                return FAR;
            }
            return rest[stateOf(word, kind) + marks];
        }

        private void walkBack() {
            for (int word = choices.words - 1; word >= 0; word--) {
                for (int kind = 0; kind < KINDS; kind++) {
                    if (hasKind(word, kind)) {
                        fillRest(word, kind);
                    }
                }
            }
        }

        private void fillRest(int word, int kind) {
            int state = stateOf(word, kind);
            boolean isLast = word == choices.words - 1;
            Arrays.fill(rest, state + lows[word], state + highs[word] + 1, isLast ? 0 : FAR);
            if (isLast) {
                return;
            }
            int next = word + 1;
            for (int slot = firstSlot(next); slot <= lastSlot(next); slot++) {
                int gain = gains[slot];
                int nextState = stateOf(next, choices.kinds[slot]) + gain;
                int step = pairCosts[kind * KINDS + choices.kinds[slot]] + choices.costs[slot];
                int last = Math.min(highs[word], highs[next] - gain);
                for (int marks = Math.max(lows[word], lows[next] - gain); marks <= last; marks++) {
                    rest[state + marks] = Math.min(rest[state + marks], step + rest[nextState + marks]);
                }
            }
        }

        private void walkOn(int[] through, int offset) {
            for (int word = 0; word < choices.words; word++) {
                enter(word);
                Arrays.fill(passed, FAR);
                for (int slot = firstSlot(word); slot <= lastSlot(word); slot++) {
                    through[offset + slot] = pass(word, slot);
                }
            }
        }

        private void enter(int word) {
            for (int kind = 0; kind < KINDS; kind++) {
                if (!hasKind(word, kind)) {
                    continue;
                }
                if (word == 0) {
                    entering[kind * SPAN] = 0;
                    continue;
                }
                int width = highs[word - 1] - lows[word - 1] + 1;
                Arrays.fill(entering, kind * SPAN, kind * SPAN + width, FAR);
                for (int before = 0; before < KINDS; before++) {
                    if (hasKind(word - 1, before)) {
                        enterFrom(before, kind, width);
                    }
                }
            }
        }

        private void enterFrom(int before, int kind, int width) {
            int cost = pairCosts[before * KINDS + kind];
            for (int k = 0; k < width; k++) {
                entering[kind * SPAN + k] = Math.min(entering[kind * SPAN + k], passed[before * SPAN + k] + cost);
            }
        }

        private int pass(int word, int slot) {
            int low = word == 0 ? 0 : lows[word - 1];
            int high = word == 0 ? 0 : highs[word - 1];
            int kind = choices.kinds[slot];
            int gain = gains[slot];
            int state = stateOf(word, kind) + gain;
            int from = kind * SPAN - low;
            int to = kind * SPAN - lows[word] + gain;
            int last = Math.min(high, highs[word] - gain);
            int least = FAR;
            for (int marks = Math.max(low, lows[word] - gain); marks <= last; marks++) {
                int cost = entering[from + marks] + choices.costs[slot];
                passed[to + marks] = Math.min(passed[to + marks], cost);
                least = Math.min(least, cost + rest[state + marks]);
            }
            return least;
        }

        /** The first of the cheapest ways; solve without a word must have been the latest. */
        void follow(int best, int[] chosen) {
            int left = best;
            int marks = 0;
            int before = NONE;
            for (int word = 0; word < choices.words; word++) {
                int first = word * MOST_READINGS;
                for (int reading = 0; reading < choices.counts[word]; reading++) {
                    int slot = first + reading;
                    int kind = choices.kinds[slot];
                    int step = choices.costs[slot] + (before == NONE ? 0 : pairCosts[before * KINDS + kind]);
                    int behind = restOf(word, kind, marks + gains[slot]);
                    if (step + behind == left) {
                        chosen[word] = reading;
                        left = behind;
                        marks += gains[slot];
                        before = kind;
                        break;
                    }
                }
            }
        }
    }

    /** How many ways there are by what they cost above the best: a state's ways are kept by what is lost already. */
    private static final class Tally {
        private static final int LOSSES = LAST_GAP + 1;
        private static final int LAYER = KINDS * Walk.SPAN * LOSSES;

        private final Walk walk;
        private final Choices choices;
        final long[] within = new long[LOSSES];
        /** Made long enough at the first use, since it is by far the largest and many a bench never counts. */
        private long[] here = new long[0];
        private long[] there = new long[0];

        Tally(Walk walk) {
            this.walk = walk;
            this.choices = walk.choices;
        }

        /** The walk must have been solved for the whole line just before. */
        void count(int best) {
            if (here.length < LAYER || there.length < LAYER) {
                here = new long[LAYER];
                there = new long[LAYER];
            }
            clear(here, 0);
            begin(best);
            for (int word = 1; word < choices.words; word++) {
                clear(there, word);
                stepTo(word);
                long[] old = here;
                here = there;
                there = old;
            }
            sum();
        }

        private int rowOf(int word, int kind, int marks) {
            return (kind * Walk.SPAN + marks - walk.lows[word]) * LOSSES;
        }

        private void clear(long[] layer, int word) {
            for (int kind = 0; kind < KINDS; kind++) {
                if (walk.hasKind(word, kind)) {
                    int from = rowOf(word, kind, walk.lows[word]);
                    Arrays.fill(layer, from, rowOf(word, kind, walk.highs[word]) + LOSSES, 0L);
                }
            }
        }

        private void begin(int best) {
            for (int slot = 0; slot < choices.counts[0]; slot++) {
                int kind = choices.kinds[slot];
                int marks = walk.gains[slot];
                int loss = choices.costs[slot] + walk.restOf(0, kind, marks) - best;
                if (loss >= 0 && loss < LOSSES) {
                    here[rowOf(0, kind, marks) + loss]++;
                }
            }
        }

        private void stepTo(int word) {
            int before = word - 1;
            for (int kind = 0; kind < KINDS; kind++) {
                if (!walk.hasKind(before, kind)) {
                    continue;
                }
                for (int marks = walk.lows[before]; marks <= walk.highs[before]; marks++) {
                    int row = rowOf(before, kind, marks);
                    int least = leastLoss(row);
                    if (least < LOSSES) {
                        spread(word, kind, marks, row, least);
                    }
                }
            }
        }

        private int leastLoss(int row) {
            for (int loss = 0; loss < LOSSES; loss++) {
                if (here[row + loss] != 0) {
                    return loss;
                }
            }
            return LOSSES;
        }

        private void spread(int word, int kind, int marks, int row, int least) {
            int known = walk.restOf(word - 1, kind, marks);
            int first = word * MOST_READINGS;
            for (int slot = first; slot < first + choices.counts[word]; slot++) {
                int nextKind = choices.kinds[slot];
                int nextMarks = marks + walk.gains[slot];
                int step = walk.pairCosts[kind * KINDS + nextKind] + choices.costs[slot];
                int lost = step + walk.restOf(word, nextKind, nextMarks) - known;
                if (lost < 0 || lost + least >= LOSSES) {
                    continue;
                }
                int nextRow = rowOf(word, nextKind, nextMarks) + lost;
                for (int loss = least; loss + lost < LOSSES; loss++) {
                    there[nextRow + loss] += here[row + loss];
                }
            }
        }

        private void sum() {
            int last = choices.words - 1;
            long total = 0;
            for (int loss = 0; loss < LOSSES; loss++) {
                for (int kind = 0; kind < KINDS; kind++) {
                    if (walk.hasKind(last, kind)) {
                        total += here[rowOf(last, kind, walk.lows[last]) + loss];
                    }
                }
                within[loss] = total;
            }
        }
    }

    /** What follows from the readings, worked out when first asked for and kept until they change. */
    private static final class Sheet {
        private final Choices choices;
        private final Walk walk;
        private final Tally tally;
        private final int[] through = new int[SLOTS];
        final int[] chosen = new int[MOST_WORDS];
        /** By a word that is read by the first best way alone: what through would be then. */
        private final int[] ifRead = new int[MOST_WORDS * SLOTS];
        private final boolean[] ifReadKnown = new boolean[MOST_WORDS];
        int least = 0;
        private int[] pairCosts = new int[KINDS * KINDS];
        private int metre = NONE;
        private boolean solved = false;
        private boolean counted = false;

        Sheet(Choices choices) {
            this.choices = choices;
            walk = new Walk(choices);
            tally = new Tally(walk);
        }

        void forget(int[] pairs, int weight) {
            pairCosts = pairs;
            metre = weight;
            solved = false;
        }

        private void workOut() {
            if (solved) {
                return;
            }
            solved = true;
            counted = false;
            for (int word = 0; word < MOST_WORDS; word++) {
                ifReadKnown[word] = false;
            }
            if (choices.words == 0) {
                least = 0;
                return;
            }
            walk.prepare(pairCosts, metre);
            least = walk.solve(NONE, NONE, through, 0);
            if (least < FAR) {
                walk.follow(least, chosen);
            }
        }

        boolean hasWay() {
            workOut();
            return least < FAR;
        }

        int costThrough(int slot) {
            workOut();
            return through[slot] < FAR ? through[slot] : NONE;
        }

        /** There must be a way. */
        long waysWithin(int gap) {
            if (choices.words == 0) {
                return 1;
            }
            if (!counted) {
                // an earlier question may have left the walk with one word fixed
                walk.solve(NONE, NONE, through, 0);
                tally.count(least);
                counted = true;
            }
            return tally.within[gap];
        }

        boolean isSure(int word, int gap) {
            return isSureBy(through, 0, word, gap);
        }

        int firstNear(int word, int gap) {
            return nearFrom(through, 0, word * MOST_READINGS, gap);
        }

        /** The first slot from this one on, up to its word's last, that is near; NONE if there is none. */
        private int nearFrom(int[] costs, int offset, int from, int gap) {
            int word = from / MOST_READINGS;
            int behind = word * MOST_READINGS + choices.counts[word];
            for (int slot = from; slot < behind; slot++) {
                if (costs[offset + slot] <= least + gap) {
                    return slot;
                }
            }
            return NONE;
        }

        private boolean isSureBy(int[] costs, int offset, int word, int gap) {
            int first = nearFrom(costs, offset, word * MOST_READINGS, gap);
            int behind = word * MOST_READINGS + choices.counts[word];
            if (first == NONE) {
                return false;
            }
            for (int slot = first + 1; slot < behind; slot++) {
                if (costs[offset + slot] <= least + gap && !choices.areSpelledAlike(first, slot)) {
                    return false;
                }
            }
            return true;
        }

        int askedFirst(int gap) {
            int asked = NONE;
            int most = NONE;
            for (int word = 0; word < choices.words; word++) {
                if (!isSure(word, gap)) {
                    int sureWords = sureIfRead(word, gap);
                    if (sureWords > most) {
                        most = sureWords;
                        asked = word;
                    }
                }
            }
            return asked;
        }

        private int sureIfRead(int word, int gap) {
            int offset = word * SLOTS;
            if (!ifReadKnown[word]) {
                walk.solve(word, chosen[word], ifRead, offset);
                ifReadKnown[word] = true;
            }
            int found = 0;
            for (int other = 0; other < choices.words; other++) {
                if (isSureBy(ifRead, offset, other, gap)) {
                    found++;
                }
            }
            return found;
        }
    }
}
