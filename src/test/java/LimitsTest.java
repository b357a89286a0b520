import java.lang.management.ManagementFactory;

/** The largest books and lines: counts that arithmetic knows, and what a long run of the dearest calls makes. */
public final class LimitsTest {
    private static final long MOST_BYTES = 4_000_000;
    private final Check check = new Check();

    public static void main(String[] args) {
        LimitsTest test = new LimitsTest();
        test.manyWays();
        test.waysByMarks();
        test.widestMarks();
        test.lastCall();
        test.heaviest();
        test.dearestRun();
        test.check.end();
    }

    private static String repeat(String word, int times) {
        return (word + " ").repeat(times).trim();
    }

    /** Twelve readings of like cost for each of fourteen words: 12 to the 14th ways. */
    private void manyWays() {
        StringBuilder book = new StringBuilder();
        for (int k = 0; k < 12; k++) {
            book.append("word ").append(k < 8 ? "a" : "A").append(' ').append(k % 8).append(" 0;");
        }
        MarkBench x = Check.bench(book.toString(), 0, repeat("a", 14));
        long all = 1;
        for (int k = 0; k < 14; k++) {
            all *= 12;
        }
        check.due("12 to the 14th", x.ways(0), all);
        check.due("ask(0)", x.ask(0), 0);
        x.metre(14);
        check.due("8 to the 14th", x.ways(0), 1L << 42);
        x.metre(28);
        check.due("4 to the 14th", x.ways(100), 1L << 28);
        x.metre(29);
        check.due("beyond all", x.ways(100), 0);
        x.metre(15);
        check.due("one of fourteen marked", x.ways(0), 14L * 4 * (1L << 39));
    }

    /** Word by word 0 to 12 marks are left to choose; the ways by their marks are the powers of a polynomial. */
    private void waysByMarks() {
        MarkBench x = Check.bench(marksBook(0), 0, repeat("aaaaaaaaaaaa", 14));
        long[] byMarks = {1};
        for (int word = 0; word < 14; word++) {
            long[] next = new long[byMarks.length + 11];
            for (int marks = 0; marks < byMarks.length; marks++) {
                for (int more = 0; more < 12; more++) {
                    next[marks + more] += byMarks[marks];
                }
            }
            byMarks = next;
        }
        for (int weight = 160; weight <= 335; weight++) {
            int marks = weight - 168;
            long want = marks < 0 || marks >= byMarks.length ? 0 : byMarks[marks];
            x.metre(weight);
            check.due("ways(0) by " + weight, x.ways(0), want);
        }
    }

    private static long[] times(long[] ways, long[] word) {
        long[] product = new long[ways.length + word.length - 1];
        for (int k = 0; k < ways.length; k++) {
            for (int more = 0; more < word.length; more++) {
                product[k + more] += ways[k] * word[more];
            }
        }
        return product;
    }

    /** Words of none, one or all of twelve vowels marked, of four kinds each; some of them have six marks already. */
    private void widestMarks() {
        StringBuilder book = new StringBuilder();
        for (int kind = 0; kind < 4; kind++) {
            for (int marks : new int[] {0, 1, 12}) {
                book.append("word ").append("A".repeat(marks)).append("a".repeat(12 - marks)).append(' ').append(kind).append(" 0;");
            }
        }
        for (int kind = 0; kind < 4; kind++) {
            for (int marks : new int[] {6, 7, 12}) {
                book.append("word ").append("E".repeat(marks)).append("e".repeat(12 - marks)).append(' ').append(kind).append(" 0;");
            }
        }
        long[] open = new long[13];
        open[0] = open[1] = open[12] = 4;
        long[] half = new long[13];
        half[6] = half[7] = half[12] = 4;
        for (int halves : new int[] {0, 4, 14}) {
            StringBuilder line = new StringBuilder();
            long[] byMarks = {1};
            for (int word = 0; word < 14; word++) {
                boolean isHalf = word % 3 == 0 && halves == 4 && word < 12 || halves == 14;
                line.append(isHalf ? "EEEEEEeeeeee " : "aaaaaaaaaaaa ");
                byMarks = times(byMarks, isHalf ? half : open);
            }
            MarkBench x = Check.bench(book.toString(), 0, line.toString());
            for (int marks = 0; marks <= 168; marks++) {
                x.metre(168 + marks);
                check.due("ways(0) by " + marks + " marks", x.ways(0), byMarks[marks]);
                check.due("best() by " + marks + " marks", x.best(), byMarks[marks] == 0 ? -2 : 0);
            }
        }
    }

    /** An object answers 512 calls: the last as the first. */
    private void lastCall() {
        MarkBench x = Check.bench("word a 0 9; word A 1 8;", 0, "a a");
        // five calls made the book, four the line
        int calls = 9;
        for (int weight = 2; calls <= 508; weight = weight % 4 + 1) {
            check.due("metre(" + weight + ")", x.metre(weight), true);
            check.due("best() by " + weight, x.best(), weight == 1 ? -2 : 20 - weight);
            calls += 2;
        }
        check.due("the 510th", x.metre(-1), true);
        check.due("the 511th", x.settle(1, 1), 0);
        check.due("the 512th", x.best(), 14);
    }

    /** Costs as high as can be: no sum is lost. */
    private void heaviest() {
        MarkBench x = Check.bench("word a 0 99; pair 0 0 99;", 0, repeat("a", 14));
        check.due("best()", x.best(), 27 * 99);
        check.due("through", x.reading(13, 0, 5), 27 * 99);
        check.due("ways(0)", x.ways(0), 1);
        x = Check.bench("word a 0 99; word A 1 0; pair 0 0 99;", 0, repeat("a", 14));
        check.due("best()", x.best(), 0);
        check.due("through by one", x.reading(3, 0, 5), 99);
        check.due("ways(98)", x.ways(98), 1);
        check.due("ways(99)", x.ways(99), 15);
        x.metre(14);
        check.due("best() by 14", x.best(), 27 * 99);
        x.metre(15);
        check.due("best() by 15", x.best(), 13 * 99 + 11 * 99);
        check.due("the first such way marks as late as can be", x.choice(1), 0);
        check.due("the first such way marks as late as can be", x.choice(12), 1);
        check.due("how many there are", x.ways(0), 12);
    }

    /** Twelve forms of 0 to 11 marks, of all kinds. */
    private static String marksBook(int cost) {
        StringBuilder book = new StringBuilder();
        for (int marks = 0; marks < 12; marks++) {
            book.append("word ").append("A".repeat(marks)).append("a".repeat(12 - marks)).append(' ')
                    .append(marks % 8).append(' ').append(marks * cost).append(';');
        }
        return book.toString();
    }

    private void dearestRun() {
        StringBuilder book = new StringBuilder(marksBook(1));
        for (int k = 0; k < 40; k++) {
            book.append("pair ").append(k / 8).append(' ').append(k % 8).append(' ').append(k % 7).append(';');
        }
        com.sun.management.ThreadMXBean thread =
                (com.sun.management.ThreadMXBean) ManagementFactory.getThreadMXBean();
        long before = thread.getCurrentThreadAllocatedBytes();
        long start = System.nanoTime();
        MarkBench x = Check.bench(book.toString(), 0, repeat("aaaaaaaaaaaa", 14));
        long sum = 0;
        for (int k = 0; k < 55; k++) {
            x.metre(200 + k);
            sum += x.ways(100) + x.ask(k) + x.best() + x.text(k, k) + x.settle(k % 14, 0) + x.readings(0);
            sum += x.back(k) ? 1 : 0;
        }
        long bytes = thread.getCurrentThreadAllocatedBytes() - before;
        System.out.println("dearest run: " + bytes + " bytes, " + (System.nanoTime() - start) / 1000000 + " ms, sum " + sum);
        check.due("bytes made are few", bytes < MOST_BYTES, true);
    }
}
