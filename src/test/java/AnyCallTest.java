/**
 * No call throws by itself, for any arguments, also far behind the 512th call (rule 7 of the language);
 * what it answers there is free.
 */
public final class AnyCallTest {
    private static final int RUNS = 200;
    private static final int CALLS = 5000;
    private static final int[] INTS = {0, 0, 0, 0, 1, 1, 2, 3, 5, 6, 7, 23, 24, 119, 120, 255, 256, 599, 600, 1000,
        -1, -2, Integer.MAX_VALUE, Integer.MAX_VALUE - 1, Integer.MIN_VALUE, Integer.MIN_VALUE + 1, 715827883, 35791395};
    private static final long[] LONGS = {0, 0, 0, 0, 1, 2, 29, 30, 3599, 3600, 1000000, 1000001, 1000000000000L,
        -1, Long.MAX_VALUE, Long.MIN_VALUE, Long.MAX_VALUE - 1, Long.MIN_VALUE + 1, 1L << 32, 1L << 31, -(1L << 31)};
    private static final String[] WORDS = {"kind ", "0 ", "1 ", "per ", "1 ", "price ", "5 ", "step ", "3 ", "cap ",
        "kind 0 per 1 price 1 step 1 5 cap 7 ", "kind 1 per 0 price 1 ", "999999 ", "1000000 ", "\n", "x "};

    private final Numbers numbers;
    private final FeeRules x = new FeeRules();

    private AnyCallTest(int run) {
        numbers = new Numbers(run);
    }

    public static void main(String[] args) {
        Due due = new Due("AnyCallTest");
        due.of("What it is", "what later calls answer is free.");
        for (int run = 0; run < RUNS; run++) {
            new AnyCallTest(run).play(due, run);
        }
        due.end();
    }

    private void play(Due due, int run) {
        int call = 0;
        try {
            for (; call < CALLS; call++) {
                callAny(numbers.below(20));
            }
        } catch (RuntimeException thrown) {
            System.out.println("run " + run + " call " + call + " threw " + thrown);
        }
        due.is("calls of run " + run + " that did not throw", call, CALLS);
    }

    private int i() {
        return numbers.oneIn(3) ? 0 : INTS[numbers.below(INTS.length)];
    }

    private long l() {
        return numbers.oneIn(3) ? 0 : LONGS[numbers.below(LONGS.length)];
    }

    private void callAny(int which) {
        switch (which) {
            case 0 -> x.house(i());
            case 1 -> x.fact(i(), i(), l(), l(), l());
            case 2 -> x.unit(i());
            case 3 -> tellRule();
            case 4 -> x.edition(i(), i());
            case 5 -> x.cap(i(), l());
            case 6 -> x.relief(i(), i(), l(), l());
            case 7 -> x.weight(i(), i(), i());
            case 8 -> x.bill(i(), i(), l());
            case 9, 10 -> x.walk(i(), i(), l());
            case 11 -> x.line(i(), i());
            case 12 -> x.open(i());
            case 13 -> x.write(i());
            case 14 -> x.flat(i(), i(), l(), i());
            case 15 -> x.issue(i(), i(), l());
            case 16 -> x.issued(i(), i());
            case 17 -> x.reverse(i(), i());
            case 18 -> tellWords();
            default -> x.read(l(), l());
        }
    }

    private void tellRule() {
        x.read(l(), l());
        Told.read(x, WORDS[10] + WORDS[numbers.below(WORDS.length)], l(), l());
    }

    // Never emptied here, so that the text also grows full.
    private void tellWords() {
        for (int words = numbers.below(30); words > 0; words--) {
            String word = WORDS[numbers.below(WORDS.length)];
            for (int at = 0; at < word.length(); at++) {
                x.unit(word.charAt(at));
            }
        }
    }
}
