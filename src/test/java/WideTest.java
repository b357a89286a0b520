import java.util.ArrayList;
import java.util.Arrays;
import java.util.List;
import java.util.Random;

/** Long lines of many readings by chance (the same each time): ways are added up by kind, weight and cost. */
public final class WideTest {
    private static final int RUNS = 30;
    private static final int KINDS = 8;
    private static final int[] GAPS = {0, 1, 2, 4, 8};
    private static final int FAR = 1_000_000;
    private static final int NONE = -1;

    private final Check check = new Check();
    private final Random dice = new Random(14);
    private MarkBench x;
    private Model y;
    private final int[][] pairs = new int[KINDS][KINDS];
    private int metre;

    public static void main(String[] args) {
        WideTest test = new WideTest();
        for (int run = 0; run < RUNS; run++) {
            test.run(run % 5 == 0);
        }
        test.check.end();
    }

    /** What is asked first by a metre takes long to find out this way, so it is not looked at in each run. */
    private void run(boolean asksByMetre) {
        x = new MarkBench();
        y = new Model();
        metre = NONE;
        String book = bookText();
        String line = lineText();
        take(book, line);
        answers(book + line, true);
        int settled = dice.nextInt(y.all().size());
        check.due("settle", x.settle(settled, 0), y.settle(settled, 0));
        metre = lightest() + dice.nextInt(12);
        x.metre(metre);
        answers(book + line + " by " + metre, asksByMetre);
    }

    private void feedModel(String text) {
        y.end(0);
        for (int at = 0; at < text.length(); at += 20) {
            y.feed(Check.number(text, at), Check.number(text, at + 4), Check.number(text, at + 8),
                    Check.number(text, at + 12), Check.number(text, at + 16));
        }
        y.end(text.length());
    }

    private void take(String book, String line) {
        feedModel(book);
        check.due("book of " + book, Check.book(x, book), y.book());
        feedModel(line);
        check.due("line of " + line, Check.line(x, 0, line), y.line(0));
    }

    private String bookText() {
        StringBuilder text = new StringBuilder();
        for (int form = 0; form < 4; form++) {
            List<String> told = new ArrayList<>();
            int count = 2 + dice.nextInt(13);
            for (int k = 0; k < count; k++) {
                String word = marked("aeio".substring(form) + "baeio".substring(0, form + 1)) + " " + dice.nextInt(KINDS);
                if (!told.contains(word)) {
                    told.add(word);
                    text.append("word ").append(word).append(' ').append(dice.nextInt(10)).append(';');
                }
            }
        }
        for (int k = 0; k < 40; k++) {
            int before = k * 3 % 64;
            boolean isBar = dice.nextInt(4) == 0;
            text.append(isBar ? "bar " : "pair ").append(before / 8).append(' ').append(before % 8);
            text.append(isBar ? "" : " " + dice.nextInt(10)).append(';');
        }
        return text.toString();
    }

    private String marked(String form) {
        StringBuilder text = new StringBuilder();
        for (char c : form.toCharArray()) {
            text.append(dice.nextInt(2) == 0 ? Character.toUpperCase(c) : c);
        }
        return text.toString();
    }

    private String lineText() {
        StringBuilder text = new StringBuilder();
        int words = 9 + dice.nextInt(6);
        for (int k = 0; k < words; k++) {
            int form = dice.nextInt(4);
            text.append("aeio".substring(form)).append("baeio", 0, form + 1).append(' ');
        }
        return text.toString();
    }

    private int lightest() {
        return y.all().stream().mapToInt(of -> of.stream().mapToInt(r -> Model.weight(r.form())).min().orElseThrow()).sum();
    }

    private void answers(String when, boolean asks) {
        List<List<Model.Reading>> all = y.all();
        tellPairs();
        int best = least(all);
        check.due("best() of " + when, x.best(), best == FAR ? -2 : best);
        int[] first = best == FAR ? null : firstBest(all, best);
        int[][] through = throughs(all);
        for (int word = 0; word < all.size(); word++) {
            check.due("choice(" + word + ") of " + when, x.choice(word), first == null ? NONE : first[word]);
            int reading = dice.nextInt(all.get(word).size());
            int cost = through[word][reading];
            check.due("through of " + word + ", " + reading + " of " + when, x.reading(word, reading, 5), cost == FAR ? NONE : cost);
        }
        if (first == null) {
            check.due("ways(100) of " + when, x.ways(100), 0);
            return;
        }
        long[] byCost = waysByCost(all, best);
        for (int gap : new int[] {0, 1, 5, 17, 99, 100}) {
            check.due("ways(" + gap + ") of " + when, x.ways(gap), Arrays.stream(byCost, 0, gap + 1).sum());
        }
        for (int gap : GAPS) {
            for (int word = 0; word < all.size(); word++) {
                check.due("sure(" + word + ", " + gap + ") of " + when, x.sure(word, gap), isSure(all.get(word), through[word], best + gap) ? 1 : 0);
            }
        }
        if (asks) {
            int[][][] ifRead = new int[all.size()][][];
            for (int word = 0; word < all.size(); word++) {
                ifRead[word] = throughs(fixed(all, word, first[word]));
            }
            for (int gap : GAPS) {
                check.due("ask(" + gap + ") of " + when, x.ask(gap), asked(all, through, first, ifRead, best + gap));
            }
        }
    }

    private static List<List<Model.Reading>> fixed(List<List<Model.Reading>> all, int word, int reading) {
        List<List<Model.Reading>> left = new ArrayList<>(all);
        left.set(word, List.of(all.get(word).get(reading)));
        return left;
    }

    private void tellPairs() {
        for (int before = 0; before < KINDS; before++) {
            for (int kind = 0; kind < KINDS; kind++) {
                pairs[before][kind] = y.pair(before, kind);
            }
        }
    }

    /** Without a metre no weight matters, so all ways are taken to weigh nothing. */
    private int weightOf(Model.Reading reading) {
        return metre == NONE ? 0 : Model.weight(reading.form());
    }

    /** The least cost by the last kind and the weight, word by word; FAR without a way. */
    private int least(List<List<Model.Reading>> all) {
        int most = Math.max(metre, 0);
        int[][] costs = null;
        for (List<Model.Reading> of : all) {
            int[][] next = new int[KINDS][most + 1];
            for (int[] row : next) {
                Arrays.fill(row, FAR);
            }
            for (Model.Reading r : of) {
                int more = weightOf(r);
                int[] row = next[r.kind()];
                if (costs == null && more <= most) {
                    row[more] = Math.min(row[more], r.cost());
                }
                for (int before = 0; costs != null && before < KINDS; before++) {
                    int step = pairs[before][r.kind()] + r.cost();
                    for (int weight = 0; pairs[before][r.kind()] >= 0 && weight + more <= most; weight++) {
                        row[weight + more] = Math.min(row[weight + more], costs[before][weight] + step);
                    }
                }
            }
            costs = next;
        }
        int least = FAR;
        for (int[] row : costs) {
            least = Math.min(least, row[most]);
        }
        return least;
    }

    private int[][] throughs(List<List<Model.Reading>> all) {
        int[][] costs = new int[all.size()][];
        for (int word = 0; word < all.size(); word++) {
            costs[word] = new int[all.get(word).size()];
            for (int reading = 0; reading < costs[word].length; reading++) {
                costs[word][reading] = least(fixed(all, word, reading));
            }
        }
        return costs;
    }

    /** Word by word the first reading by which the best can still be had. */
    private int[] firstBest(List<List<Model.Reading>> all, int best) {
        int[] picks = new int[all.size()];
        List<List<Model.Reading>> left = all;
        for (int word = 0; word < picks.length; word++) {
            while (least(fixed(left, word, picks[word])) != best) {
                picks[word]++;
            }
            left = fixed(left, word, picks[word]);
        }
        return picks;
    }

    /** How many ways cost so much above the best. */
    private long[] waysByCost(List<List<Model.Reading>> all, int best) {
        int heaviest = Math.max(metre, 0);
        int dearest = best + 100;
        long[][][] ways = null;
        for (List<Model.Reading> of : all) {
            long[][][] next = new long[KINDS][heaviest + 1][dearest + 1];
            for (Model.Reading r : of) {
                int more = weightOf(r);
                if (ways == null && more <= heaviest && r.cost() <= dearest) {
                    next[r.kind()][more][r.cost()]++;
                }
                for (int before = 0; ways != null && before < KINDS; before++) {
                    int step = pairs[before][r.kind()] + r.cost();
                    for (int weight = 0; pairs[before][r.kind()] >= 0 && weight + more <= heaviest; weight++) {
                        for (int cost = 0; cost + step <= dearest; cost++) {
                            next[r.kind()][weight + more][cost + step] += ways[before][weight][cost];
                        }
                    }
                }
            }
            ways = next;
        }
        long[] byCost = new long[101];
        for (int gap = 0; gap <= 100; gap++) {
            for (int kind = 0; kind < KINDS; kind++) {
                byCost[gap] += ways[kind][heaviest][best + gap];
            }
        }
        return byCost;
    }

    private static boolean isSure(List<Model.Reading> of, int[] through, int most) {
        List<String> forms = new ArrayList<>();
        for (int reading = 0; reading < through.length; reading++) {
            if (through[reading] <= most && !forms.contains(of.get(reading).form())) {
                forms.add(of.get(reading).form());
            }
        }
        return forms.size() == 1;
    }

    private int asked(List<List<Model.Reading>> all, int[][] through, int[] first, int[][][] ifRead, int most) {
        int asked = NONE;
        int mostSure = NONE;
        for (int word = 0; word < all.size(); word++) {
            if (!isSure(all.get(word), through[word], most)) {
                List<List<Model.Reading>> left = fixed(all, word, first[word]);
                int sure = 0;
                for (int other = 0; other < all.size(); other++) {
                    sure += isSure(left.get(other), ifRead[word][other], most) ? 1 : 0;
                }
                if (sure > mostSure) {
                    mostSure = sure;
                    asked = word;
                }
            }
        }
        return asked;
    }
}
