import java.util.ArrayList;
import java.util.List;
import java.util.Random;

/** Runs of calls by chance (the same each time), each answered by the class and by the model. */
public final class ModelTest {
    private static final int RUNS = 4000;
    private static final int STEPS = 50;
    /** Behind 512 calls every answer is free; a step makes some forty at most. */
    private static final int MOST_CALLS = 460;
    private static final long MOST_WAYS = 5000;

    private final Check check = new Check();
    private final Random dice = new Random(20261116);
    private MarkBench x;
    private Model y;
    private String trace = "";
    private int calls = 0;
    /** What the latest book's text tells as words, for lines to take up. */
    private final List<String> told = new ArrayList<>();

    public static void main(String[] args) {
        ModelTest test = new ModelTest();
        for (int run = 0; run < RUNS; run++) {
            test.run(run);
        }
        test.check.end();
    }

    private void run(int run) {
        x = new MarkBench();
        y = new Model();
        trace = "";
        calls = 0;
        for (int step = 0; step < STEPS && calls < MOST_CALLS; step++) {
            int what = step == 0 ? 0 : dice.nextInt(12);
            if (what == 0 && dice.nextInt(step == 0 ? 1 : 3) == 0) {
                feed(bookText());
                due("book()", x.book(), y.book());
            } else if (what <= 2) {
                feed(lineText());
                int day = dice.nextInt(20) == 0 ? dice.nextInt(200003) - 1 : dice.nextInt(8);
                due("line(" + day + ")", x.line(day), y.line(day));
            } else if (what == 3) {
                int weight = dice.nextInt(3) == 0 ? -1 : dice.nextInt(20) == 0 ? dice.nextInt(600) - 50 : dice.nextInt(16);
                due("metre(" + weight + ")", x.metre(weight) ? 1 : 0, y.metre(weight) ? 1 : 0);
            } else if (what == 4) {
                int word = dice.nextInt(6) - 1;
                int reading = dice.nextInt(5) - 1;
                due("settle(" + word + ", " + reading + ")", x.settle(word, reading), y.settle(word, reading));
            } else if (what == 5) {
                int hand = dice.nextInt(12) - 1;
                due("back(" + hand + ")", x.back(hand) ? 1 : 0, y.back(hand) ? 1 : 0);
            }
            if (y.manyWays() <= MOST_WAYS) {
                askAbout(1 + dice.nextInt(6));
            }
        }
    }

    private void due(String call, long got, long want) {
        calls++;
        trace += call + "=" + want + "; ";
        check.due(got == want ? call : trace, got, want);
    }

    private int gap() {
        return dice.nextInt(15) == 0 ? dice.nextInt(105) - 2 : dice.nextInt(4) == 0 ? dice.nextInt(100) : dice.nextInt(12);
    }

    private void askAbout(int times) {
        for (int k = 0; k < times; k++) {
            int gap = gap();
            int word = dice.nextInt(7) - 1;
            int reading = dice.nextInt(6) - 1;
            int what = dice.nextInt(8) - 1;
            switch (dice.nextInt(14)) {
                case 0 -> due("fault(" + what + ")", x.fault(what), y.fault(what));
                case 1 -> due("readings(" + word + ")", x.readings(word), y.readings(word));
                case 2, 3 -> due("reading(" + word + ", " + reading + ", " + what + ")",
                        x.reading(word, reading, what), y.reading(word, reading, what));
                case 4 -> due("letter(" + word + ", " + reading + ", " + what + ")",
                        x.letter(word, reading, what), y.letter(word, reading, what));
                case 5 -> due("best()", x.best(), y.best());
                case 6 -> due("choice(" + word + ")", x.choice(word), y.choice(word));
                case 7, 8 -> due("ways(" + gap + ")", x.ways(gap), y.ways(gap));
                case 9 -> due("sure(" + word + ", " + gap + ")", x.sure(word, gap), y.sure(word, gap));
                case 10 -> askText(gap);
                case 11 -> due("ask(" + gap + ")", x.ask(gap), y.ask(gap));
                case 12 -> due("entry(" + reading + ", " + what + ")", x.entry(reading, what), y.entry(reading, what));
                default -> askAboutIt(dice.nextInt(12) - 1);
            }
        }
    }

    private void askText(int gap) {
        int k = dice.nextInt(30) - 1;
        due("text(" + gap + ", " + k + ")", x.text(gap, k), y.text(gap, k));
    }

    private void askAboutIt(int what) {
        due("about(" + what + ")", x.about(what), y.about(what));
    }

    private void feed(String text) {
        trace += "'" + text + "' ";
        due("end(0)", x.end(0), y.end(0));
        for (int at = 0; at < text.length(); at += 20) {
            int[] n = new int[5];
            for (int k = 0; k < 5; k++) {
                n[k] = Check.number(text, at + 4 * k);
            }
            due("feed", x.feed(n[0], n[1], n[2], n[3], n[4]), y.feed(n));
        }
        due("end(" + text.length() + ")", x.end(text.length()), y.end(text.length()));
    }

    /** Few letters and short forms, so that many of them meet. */
    private String form(int longest) {
        StringBuilder form = new StringBuilder();
        int length = 1 + dice.nextInt(longest);
        for (int k = 0; k < length; k++) {
            form.append("aaabbAB".charAt(dice.nextInt(7)));
        }
        return form.toString();
    }

    private String number(int most) {
        int value = dice.nextInt(60) == 0 ? most + 1 : dice.nextInt(8) == 0 ? most : dice.nextInt(Math.min(most, 12) + 1);
        return (dice.nextInt(30) == 0 ? "0" : "") + value;
    }

    private String bookText() {
        StringBuilder text = new StringBuilder();
        int lines = dice.nextInt(14);
        told.clear();
        int kinds = 1 + dice.nextInt(7);
        for (int k = 0; k < lines; k++) {
            String kind = number(kinds);
            String gap = dice.nextInt(4) == 0 ? "\n " : " ";
            switch (dice.nextInt(10)) {
                case 0 -> text.append("end ").append(endForms()).append(kind).append(' ').append(number(99)).append(';');
                case 1 -> text.append("name ").append(form(3)).append(';');
                case 2 -> text.append("pair ").append(kind).append(' ').append(number(kinds)).append(' ')
                        .append(number(99)).append(" ;");
                case 3 -> text.append("bar ").append(kind).append(gap).append(number(kinds)).append(';');
                case 4 -> text.append("bare ").append(kind).append(gap).append(number(99)).append(';');
                default -> text.append("word ").append(toldForm()).append(gap).append(kind).append(gap)
                        .append(number(99)).append(days()).append(';');
            }
            text.append(dice.nextInt(3) == 0 ? "" : gap);
        }
        return spoilt(text, 6);
    }

    private String toldForm() {
        told.add(told.isEmpty() || dice.nextInt(3) == 0 ? form(3) : marked(told.get(dice.nextInt(told.size())), 2));
        return told.get(told.size() - 1);
    }

    /** Some of its letters marked, one of so many. */
    private String marked(String form, int times) {
        StringBuilder text = new StringBuilder();
        for (char c : form.toLowerCase().toCharArray()) {
            text.append(dice.nextInt(times) == 0 ? Character.toUpperCase(c) : c);
        }
        return text.toString();
    }

    private String endForms() {
        String first = form(2);
        return first + " " + (dice.nextInt(20) == 0 ? form(3) : marked(first, 2)) + " ";
    }

    private String days() {
        String days = "";
        if (dice.nextInt(4) == 0) {
            days += " since " + number(100000);
        }
        if (dice.nextInt(4) == 0) {
            days += " until " + number(100000);
        }
        return days;
    }

    private String lineText() {
        StringBuilder text = new StringBuilder(dice.nextInt(4) == 0 ? " " : "");
        int words = dice.nextInt(40) == 0 ? dice.nextInt(17) : dice.nextInt(7);
        for (int k = 0; k < words; k++) {
            String word = told.isEmpty() || dice.nextInt(3) == 0 ? form(dice.nextInt(60) == 0 ? 14 : 3)
                    : marked(told.get(dice.nextInt(told.size())), 9);
            text.append(dice.nextInt(12) == 0 ? "=" : "").append(word);
            text.append(dice.nextInt(6) == 0 ? "  " : k + 1 < words || dice.nextInt(3) == 0 ? " " : "");
        }
        return spoilt(text, 8);
    }

    /** One time of so many a byte is changed, put in or left out. */
    private String spoilt(StringBuilder text, int times) {
        if (dice.nextInt(times) == 0 && text.length() > 0) {
            int at = dice.nextInt(text.length());
            char c = " ;=\nab8x9\u00e9".charAt(dice.nextInt(10));
            switch (dice.nextInt(3)) {
                case 0 -> text.setCharAt(at, c);
                case 1 -> text.insert(at, c);
                default -> text.deleteCharAt(at);
            }
        }
        return text.toString();
    }
}
