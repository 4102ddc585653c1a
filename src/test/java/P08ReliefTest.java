/** Promise 8: relief. */
public final class P08ReliefTest {
    public static void main(String[] args) {
        Due due = new Due("P08ReliefTest");
        wrongOnes(due);
        daysOfARelief(due);
        full(due);
        due.end();
    }

    private static void wrongOnes(Due due) {
        FeeRules x = Told.houses(1);
        due.is("house 1", x.relief(1, 0, 0, 0), false);
        due.is("house -1", x.relief(-1, 0, 0, 0), false);
        due.is("kind 6", x.relief(0, 6, 0, 0), false);
        due.is("kind -1", x.relief(0, -1, 0, 0), false);
        due.is("from -1", x.relief(0, 0, -1, 0), false);
        due.is("to 3600", x.relief(0, 0, 0, 3600), false);
        due.is("from 3600", x.relief(0, 0, 3600, 3600), false);
        due.is("to -1", x.relief(0, 0, -1, -1), false);
        due.is("from behind to", x.relief(0, 0, 11, 10), false);
        due.is("long days", x.relief(0, 0, Long.MIN_VALUE, Long.MAX_VALUE), false);
        x.fact(0, 0, 10, 5, 0);
        due.is("none of them counts", x.bill(0, 0, 0), Due.NO_AMOUNT);
    }

    private static void daysOfARelief(Due due) {
        FeeRules x = Told.houses(1, 1);
        Told.read(x, "kind 0 per 1 price 1 kind 1 per 1 price 1", 0, 0);
        x.fact(0, 0, 9, 1, 0);
        x.fact(0, 0, 10, 20, 0);
        x.fact(0, 0, 12, 300, 0);
        x.fact(0, 0, 13, 4000, 0);
        x.fact(0, 1, 11, 50000, 0);
        x.fact(1, 0, 11, 600000, 0);
        due.is("bill before", x.bill(0, 0, 0), 54321);
        due.is("relief(0, 0, 10, 12)", x.relief(0, 0, 10, 12), true);
        due.is("both days with it, also on an earlier day", x.bill(0, 0, 0), 54001);
        due.is("another house", x.bill(1, 0, 0), 600000);
        due.is("relief of one day", x.relief(0, 1, 11, 11), true);
        due.is("the other kind", x.bill(0, 0, 0), 4001);
        due.is("over another one", x.relief(0, 0, 12, 13), true);
        due.is("days in two reliefs", x.bill(0, 0, 0), 1);
        due.is("all days", x.relief(1, 0, 0, 3599), true);
        due.is("the other house", x.bill(1, 0, 0), 0);
    }

    private static void full(Due due) {
        FeeRules x = Told.houses(1, 1);
        for (int i = 0; i < 8; i++) {
            due.is("relief " + i, x.relief(i % 2, 0, i, i), true);
            due.is("a wrong one between", x.relief(i % 2, 0, 1, 0), false);
        }
        due.is("a ninth one", x.relief(0, 0, 29, 29), false);
        x.fact(1, 0, 7, 1, 0);
        due.is("the eighth one counts", x.bill(1, 0, 0), 0);
        x.fact(0, 0, 29, 1, 0);
        due.is("the ninth one does not", x.bill(0, 0, 0), Due.NO_AMOUNT);
    }
}
