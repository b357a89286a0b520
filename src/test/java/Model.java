import java.util.ArrayList;
import java.util.HashMap;
import java.util.HashSet;
import java.util.List;
import java.util.Map;
import java.util.Set;
import java.util.TreeMap;
import java.util.regex.Matcher;
import java.util.regex.Pattern;

/** The document once more, as plainly as can be: ways are listed one by one. For short lines alone. */
final class Model {
    static final int NONE = -1;

    record Word(String form, int kind, int cost, int since, int until) { }

    record End(String form, int kind, int cost) { }

    record Reading(String form, int kind, int cost, int entry) { }

    record Hand(int line, int word, int entry) { }

    record Way(int[] picks, int cost) { }

    static final class Fault extends Exception {
        private static final long serialVersionUID = 1L;
        final int kind;
        final int place;

        Fault(int kind, int place) {
            this.kind = kind;
            this.place = place;
        }
    }

    static final class Book {
        final List<Word> words = new ArrayList<>();
        final List<End> ends = new ArrayList<>();
        final Set<String> names = new HashSet<>();
        final Map<String, Integer> pairs = new HashMap<>();
        int bareKind = 0;
        int bareCost = 50;
        boolean bareTold = false;
    }

    record Token(String text, int place) { }

    private String tape = "";
    private Book book = new Book();
    private String line = "";
    private int day = 0;
    private int lineNumber = 0;
    private int fault = 0;
    private int place = NONE;
    private int metre = NONE;
    private final List<Hand> hands = new ArrayList<>();
    private final Set<Integer> taken = new HashSet<>();
    private List<List<Reading>> readings = new ArrayList<>();
    private List<Integer> starts = new ArrayList<>();
    private List<Way> ways = null;

    // ---- the tape

    int feed(int... numbers) {
        StringBuilder more = new StringBuilder();
        for (int number : numbers) {
            for (int shift = 24; shift >= 0; shift -= 8) {
                more.append((char) (number >> shift & 255));
            }
        }
        if (tape.length() + more.length() > 2000) {
            return NONE;
        }
        tape += more;
        return tape.length();
    }

    int end(int n) {
        if (n < 0 || n > tape.length()) {
            return NONE;
        }
        tape = tape.substring(0, n);
        return n;
    }

    // ---- the book

    int book() {
        try {
            book = parse(tape);
        } catch (Fault found) {
            fault = found.kind;
            place = found.place;
            return NONE;
        }
        fault = 0;
        place = NONE;
        tape = "";
        line = "";
        hands.clear();
        taken.clear();
        changed();
        return book.words.size();
    }

    private static final Pattern TOKEN = Pattern.compile("[a-zA-Z]{1,12}|[0-9]{1,6}|;");

    /** All tokens; the last is the end (an empty text), or what is no token (null). */
    private static List<Token> tokens(String text) {
        List<Token> found = new ArrayList<>();
        Matcher matcher = TOKEN.matcher(text);
        int at = 0;
        boolean behindNumber = false;
        while (true) {
            if (at == text.length()) {
                found.add(new Token("", at));
                return found;
            }
            if (text.charAt(at) == ' ' || text.charAt(at) == '\n') {
                at++;
                behindNumber = false;
                continue;
            }
            matcher.region(at, text.length());
            if (!matcher.lookingAt() || behindNumber && Character.isLetter(matcher.group().charAt(0))) {
                found.add(new Token(null, at));
                return found;
            }
            found.add(new Token(matcher.group(), at));
            behindNumber = Character.isDigit(matcher.group().charAt(0));
            at = matcher.end();
        }
    }

    private static Token asked(Token token, String pattern) throws Fault {
        if (token.text == null) {
            throw new Fault(1, token.place);
        }
        if (!token.text.matches(pattern)) {
            throw new Fault(2, token.place);
        }
        return token;
    }

    private static int number(Token token, int most) throws Fault {
        int value = Integer.parseInt(asked(token, "[0-9]+").text);
        if (value > most) {
            throw new Fault(4, token.place);
        }
        return value;
    }

    private static void mustBe(boolean holds, int fault, Token token) throws Fault {
        if (!holds) {
            throw new Fault(fault, token.place);
        }
    }

    static Book parse(String text) throws Fault {
        Book told = new Book();
        List<Token> tokens = tokens(text);
        int t = 0;
        while (tokens.get(t).text == null || !tokens.get(t).text.isEmpty()) {
            Token head = asked(tokens.get(t++), "word|end|name|pair|bar|bare");
            switch (head.text) {
                case "word" -> {
                    mustBe(told.words.size() < 80, 2, head);
                    Token form = asked(tokens.get(t++), "[a-zA-Z]+");
                    int kind = number(tokens.get(t++), 7);
                    mustBe(told.words.stream().noneMatch(w -> w.form.equals(form.text) && w.kind == kind), 3, form);
                    int cost = number(tokens.get(t++), 99);
                    int since = 0;
                    int until = 100000;
                    if ("since".equals(tokens.get(t).text)) {
                        since = number(tokens.get(t + 1), 100000);
                        t += 2;
                    }
                    if ("until".equals(tokens.get(t).text)) {
                        until = number(tokens.get(t + 1), 100000);
                        t += 2;
                    }
                    told.words.add(new Word(form.text, kind, cost, since, until));
                }
                case "end" -> {
                    mustBe(told.ends.size() < 20, 2, head);
                    Token one = asked(tokens.get(t++), "[a-zA-Z]+");
                    Token other = asked(tokens.get(t++), "[a-zA-Z]+");
                    mustBe(one.text.equalsIgnoreCase(other.text), 5, other);
                    int kind = number(tokens.get(t++), 7);
                    told.ends.add(new End(other.text, kind, number(tokens.get(t++), 99)));
                }
                case "name" -> {
                    mustBe(told.names.size() < 20, 2, head);
                    Token form = asked(tokens.get(t++), "[a-zA-Z]+");
                    mustBe(told.names.add(form.text.toLowerCase()), 3, form);
                }
                case "pair", "bar" -> {
                    mustBe(told.pairs.size() < 40, 2, head);
                    Token first = tokens.get(t++);
                    int one = number(first, 7);
                    String both = one + "," + number(tokens.get(t++), 7);
                    mustBe(!told.pairs.containsKey(both), 3, first);
                    told.pairs.put(both, head.text.equals("pair") ? number(tokens.get(t++), 99) : NONE);
                }
                default -> {
                    mustBe(!told.bareTold, 2, head);
                    told.bareTold = true;
                    told.bareKind = number(tokens.get(t++), 7);
                    told.bareCost = number(tokens.get(t++), 99);
                }
            }
            asked(tokens.get(t++), ";");
        }
        return told;
    }

    // ---- the line

    private static final Pattern GOOD_LINE = Pattern.compile(" *(=?[a-zA-Z]{1,12}( +=?[a-zA-Z]{1,12}){0,13})? *");

    /** The place of the first byte with which no line can begin, or NONE. */
    static int lineFault(String text) {
        if (GOOD_LINE.matcher(text).matches()) {
            return NONE;
        }
        for (int n = 1; n <= text.length(); n++) {
            String start = text.substring(0, n);
            if (!GOOD_LINE.matcher(start).matches() && !GOOD_LINE.matcher(start + "a").matches()) {
                // a = ahead of the 15th word is not that word's first byte yet
                boolean ofFifteenth = start.endsWith("=") && GOOD_LINE.matcher(start.substring(0, n - 1)).matches()
                        && (n == 1 || text.charAt(n - 2) == ' ');
                if (!ofFifteenth) {
                    return n - 1;
                }
            }
        }
        return text.length();
    }

    int line(int ofDay) {
        if (ofDay < 0 || ofDay > 100000 || tape.length() > 200) {
            return -2;
        }
        place = lineFault(tape);
        fault = place == NONE ? 0 : 1;
        if (fault != 0) {
            return NONE;
        }
        line = tape;
        tape = "";
        day = ofDay;
        lineNumber++;
        changed();
        return readings.size();
    }

    int fault(int what) {
        return what == 0 ? fault : what == 1 ? place : NONE;
    }

    boolean metre(int weight) {
        if (weight < -1 || weight > 400) {
            return false;
        }
        metre = weight;
        changed();
        return true;
    }

    private void changed() {
        readings = new ArrayList<>();
        starts = new ArrayList<>();
        ways = null;
        Matcher matcher = Pattern.compile("=?([a-zA-Z]+)").matcher(line);
        while (matcher.find()) {
            starts.add(matcher.start(1));
            readings.add(readingsOf(readings.size(), matcher.group(1), matcher.group().startsWith("=")));
        }
    }

    private int learnt(int entry) {
        int times = 0;
        for (int h = 0; h < hands.size(); h++) {
            if (!taken.contains(h) && hands.get(h).entry == entry) {
                times++;
            }
        }
        return times;
    }

    private static boolean keeps(String form, String marked) {
        for (int k = 0; k < form.length(); k++) {
            if (Character.isUpperCase(marked.charAt(k)) && Character.isLowerCase(form.charAt(k))) {
                return false;
            }
        }
        return true;
    }

    private Reading ofEntry(int entry) {
        Word word = book.words.get(entry);
        return new Reading(word.form, word.kind, Math.max(0, word.cost - learnt(entry)), entry);
    }

    private List<Reading> readingsOf(int number, String word, boolean kept) {
        for (int h = hands.size() - 1; h >= 0; h--) {
            if (!taken.contains(h) && hands.get(h).line == lineNumber && hands.get(h).word == number) {
                return List.of(ofEntry(hands.get(h).entry));
            }
        }
        if (kept || book.names.contains(word.toLowerCase())) {
            return List.of(new Reading(word, 7, 0, NONE));
        }
        List<Reading> found = new ArrayList<>();
        for (int k = 0; k < book.words.size(); k++) {
            Word told = book.words.get(k);
            if (told.form.equalsIgnoreCase(word) && told.since <= day && day <= told.until && keeps(told.form, word)) {
                found.add(ofEntry(k));
            }
        }
        if (found.isEmpty()) {
            for (End end : book.ends) {
                if (word.toLowerCase().endsWith(end.form.toLowerCase())) {
                    String spelled = word.substring(0, word.length() - end.form.length()) + end.form;
                    if (keeps(spelled, word) && found.stream().noneMatch(r -> r.form.equals(spelled))) {
                        found.add(new Reading(spelled, end.kind, end.cost, NONE));
                    }
                }
            }
            if (found.stream().noneMatch(r -> r.form.equals(word))) {
                found.add(new Reading(word, book.bareKind, book.bareCost, NONE));
            }
        }
        return found.subList(0, Math.min(12, found.size()));
    }

    static int weight(String form) {
        int sum = 0;
        for (char c : form.toCharArray()) {
            sum += "aeiou".indexOf(c) >= 0 ? 1 : "AEIOU".indexOf(c) >= 0 ? 2 : 0;
        }
        return sum;
    }

    // ---- the ways

    /** In the order of their readings' numbers. */
    private List<Way> ways() {
        if (ways == null) {
            ways = new ArrayList<>();
            list(new int[readings.size()], 0, 0, 0);
        }
        return ways;
    }

    private void list(int[] picks, int n, int cost, int weight) {
        if (n == readings.size()) {
            if (n == 0 || metre == NONE || weight == metre) {
                ways.add(new Way(picks.clone(), cost));
            }
            return;
        }
        for (int r = 0; r < readings.get(n).size(); r++) {
            Reading reading = readings.get(n).get(r);
            int pair = 0;
            if (n > 0) {
                int before = readings.get(n - 1).get(picks[n - 1]).kind;
                pair = pair(before, reading.kind);
            }
            if (pair >= 0) {
                picks[n] = r;
                list(picks, n + 1, cost + pair + reading.cost, weight + weight(reading.form));
            }
        }
    }

    long manyWays() {
        long product = 1;
        for (List<Reading> of : readings) {
            product *= of.size();
        }
        return product;
    }

    /** All readings, for what goes through lines that are too long to list. */
    List<List<Reading>> all() {
        return readings;
    }

    /** What a pair costs, 0 if it is not told, NONE if it is barred. */
    int pair(int before, int kind) {
        return book.pairs.getOrDefault(before + "," + kind, 0);
    }

    private Reading at(int word, int reading) {
        if (word < 0 || word >= readings.size() || reading < 0 || reading >= readings.get(word).size()) {
            return null;
        }
        return readings.get(word).get(reading);
    }

    int readings(int word) {
        return word < 0 || word >= readings.size() ? NONE : readings.get(word).size();
    }

    int reading(int word, int number, int what) {
        Reading reading = at(word, number);
        if (reading == null) {
            return NONE;
        }
        return switch (what) {
            case 0 -> reading.kind;
            case 1 -> reading.cost;
            case 2 -> weight(reading.form);
            case 3 -> reading.form.length();
            case 4 -> reading.entry;
            case 5 -> ways().stream().filter(w -> w.picks[word] == number).mapToInt(w -> w.cost).min().orElse(NONE);
            default -> NONE;
        };
    }

    int letter(int word, int number, int k) {
        Reading reading = at(word, number);
        return reading == null || k < 0 || k >= reading.form.length() ? NONE : reading.form.charAt(k);
    }

    int best() {
        return ways().stream().mapToInt(w -> w.cost).min().orElse(-2);
    }

    private Way first() {
        int best = best();
        return ways().stream().filter(w -> w.cost == best).findFirst().orElse(null);
    }

    int choice(int word) {
        return word < 0 || word >= readings.size() || first() == null ? NONE : first().picks[word];
    }

    private static boolean isGap(int gap) {
        return gap >= 0 && gap <= 100;
    }

    private List<Way> near(int gap) {
        int most = best() + gap;
        return ways().stream().filter(w -> w.cost <= most).toList();
    }

    long ways(int gap) {
        return isGap(gap) ? near(gap).size() : NONE;
    }

    private boolean isSure(int word, List<Way> among) {
        return among.stream().map(w -> readings.get(word).get(w.picks[word]).form).distinct().count() == 1;
    }

    int sure(int word, int gap) {
        if (word < 0 || word >= readings.size() || !isGap(gap) || ways().isEmpty()) {
            return NONE;
        }
        return isSure(word, near(gap)) ? 1 : 0;
    }

    int text(int gap, int k) {
        if (!isGap(gap) || k < 0 || k >= line.length()) {
            return NONE;
        }
        StringBuilder text = new StringBuilder(line);
        for (int word = 0; word < readings.size() && !ways().isEmpty(); word++) {
            int number = word;
            if (isSure(word, near(gap))) {
                int r = near(gap).stream().mapToInt(w -> w.picks[number]).min().orElseThrow();
                String form = readings.get(word).get(r).form;
                text.replace(starts.get(word), starts.get(word) + form.length(), form);
            }
        }
        return text.charAt(k);
    }

    // ---- hands

    int settle(int word, int number) {
        Reading reading = at(word, number);
        if (reading == null || reading.entry == NONE || hands.size() == 60) {
            return NONE;
        }
        hands.add(new Hand(lineNumber, word, reading.entry));
        changed();
        return hands.size() - 1;
    }

    boolean back(int hand) {
        if (hand < 0 || hand >= hands.size() || !taken.add(hand)) {
            return false;
        }
        changed();
        return true;
    }

    int ask(int gap) {
        if (!isGap(gap) || first() == null) {
            return NONE;
        }
        Map<Integer, Integer> byCount = new TreeMap<>();
        for (int word = readings.size() - 1; word >= 0; word--) {
            if (!isSure(word, near(gap))) {
                int number = word;
                List<Way> left = near(gap).stream().filter(w -> w.picks[number] == first().picks[number]).toList();
                int sure = 0;
                for (int other = 0; other < readings.size(); other++) {
                    sure += isSure(other, left) ? 1 : 0;
                }
                byCount.put(-sure, word);
            }
        }
        return byCount.isEmpty() ? NONE : byCount.values().iterator().next();
    }

    int entry(int k, int what) {
        if (k < 0 || k >= book.words.size()) {
            return NONE;
        }
        Word word = book.words.get(k);
        return switch (what) {
            case 0 -> word.kind;
            case 1 -> word.cost;
            case 2 -> learnt(k);
            case 3 -> word.form.length();
            case 4 -> word.since;
            case 5 -> word.until;
            default -> NONE;
        };
    }

    int about(int what) {
        return switch (what) {
            case 0 -> book.words.size();
            case 1 -> book.ends.size();
            case 2 -> book.names.size();
            case 3 -> book.pairs.size();
            case 4 -> readings.size();
            case 5 -> line.length();
            case 6 -> day;
            case 7 -> metre;
            case 8 -> hands.size();
            case 9 -> tape.length();
            default -> NONE;
        };
    }
}
