/** Promise 15: flat. */
public final class P15FlatTest {
    public static void main(String[] args) {
        Due due = new Due("P15FlatTest");
        noneSuch(due);
        shares(due, 7, new int[] {1, 1, 1}, new long[] {3, 2, 2});
        shares(due, 8, new int[] {1, 1, 1}, new long[] {3, 3, 2});
        shares(due, 9, new int[] {1, 1, 1}, new long[] {3, 3, 3});
        shares(due, 8, new int[] {0, 1, 0, 1, 1}, new long[] {0, 3, 0, 3, 2});
        shares(due, 2, new int[] {0, 1, 1, 0, 1, 1}, new long[] {0, 1, 1, 0, 0, 0});
        shares(due, 10, new int[] {1, 1000, 2}, new long[] {1, 9, 0});
        shares(due, 1, new int[] {1, 1000}, new long[] {1, 0});
        shares(due, 999, new int[] {1000, 999, 998, 997, 996, 995}, new long[] {167, 167, 167, 166, 166, 166});
        shares(due, 5, new int[] {9}, new long[] {5});
        shares(due, 0, new int[] {3, 0}, new long[] {0, 0});
        shares(due, 5, new int[] {0, 0}, new long[] {Due.NO_AMOUNT, Due.NO_AMOUNT});
        shares(due, 0, new int[] {0}, new long[] {Due.NO_AMOUNT});
        highest(due);
        due.end();
    }

    private static void shares(Due due, int cents, int[] weights, long[] want) {
        FeeRules x = Told.houses(6, weights.length);
        Told.read(x, "kind 0 per 1 price 1", 0, 0);
        x.fact(1, 0, 30, cents, 0);
        for (int flat = 0; flat < weights.length; flat++) {
            x.weight(1, flat, weights[flat]);
        }
        for (int flat = 0; flat < weights.length; flat++) {
            due.is("share " + flat + " of " + cents, x.flat(1, 1, 0, flat), want[flat]);
        }
        due.is("no more flats", x.flat(1, 1, 0, weights.length), Due.NO_AMOUNT);
    }

    private static void noneSuch(Due due) {
        FeeRules x = Told.houses(2);
        due.is("no lines", x.flat(0, 0, 0, 0), 0);
        due.is("flat 2", x.flat(0, 0, 0, 2), Due.NO_AMOUNT);
        due.is("flat -1", x.flat(0, 0, 0, -1), Due.NO_AMOUNT);
        due.is("flat MAX", x.flat(0, 0, 0, Integer.MAX_VALUE), Due.NO_AMOUNT);
        due.is("house 1", x.flat(1, 0, 0, 0), Due.NO_AMOUNT);
        due.is("house -1", x.flat(-1, 0, 0, 0), Due.NO_AMOUNT);
        due.is("month 120", x.flat(0, 120, 0, 0), Due.NO_AMOUNT);
        due.is("month -1", x.flat(0, -1, 0, 0), Due.NO_AMOUNT);
        due.is("on 3600", x.flat(0, 0, 3600, 0), Due.NO_AMOUNT);
        due.is("on -1", x.flat(0, 0, -1, 0), Due.NO_AMOUNT);
        x.fact(0, 0, 0, 1, 0);
        due.is("an open line", x.flat(0, 0, 0, 0), Due.NO_AMOUNT);
    }

    private static void highest(Due due) {
        FeeRules x = Told.houses(3);
        Told.read(x, "kind 0 per 1 price 999999", 0, 0);
        for (int i = 0; i < 24; i++) {
            x.fact(0, 0, 0, 1000000, 0);
        }
        x.weight(0, 0, 1000);
        x.weight(0, 1, 1000);
        x.weight(0, 2, 999);
        due.is("share 0", x.flat(0, 0, 0, 0), 8002659553185L);
        due.is("share 1", x.flat(0, 0, 0, 1), 8002659553184L);
        due.is("share 2", x.flat(0, 0, 0, 2), 7994656893631L);
        x.cap(0, 10);
        due.is("a share of the cap", x.flat(0, 0, 0, 0), 4);
        due.is("a share of the cap", x.flat(0, 0, 0, 1), 3);
        due.is("a share of the cap", x.flat(0, 0, 0, 2), 3);
    }
}
