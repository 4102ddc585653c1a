/** Promise 9: weight. */
public final class P09WeightTest {
    public static void main(String[] args) {
        Due due = new Due("P09WeightTest");
        becomes(due);
        edges(due);
        answersTrue(due);
        orFalse(due);
        due.end();
    }

    private static FeeRules billOf(int cents, int... flats) {
        FeeRules x = Told.cents(flats);
        for (int house = 0; house < flats.length; house++) {
            x.fact(house, 0, 0, cents, 0);
        }
        return x;
    }

    private static void becomes(Due due) {
        due.of("Promise 9", "A flat's weight becomes");
        FeeRules x = billOf(600, 6, 6);
        due.is("all are 1", Told.shares(x, 0, 6), "100 100 100 100 100 100 ");
        x.weight(0, 0, 5);
        due.is("flat 0 is 5", Told.shares(x, 0, 6), "300 60 60 60 60 60 ");
        x.weight(0, 0, 0);
        due.is("flat 0 is 0", Told.shares(x, 0, 6), "0 120 120 120 120 120 ");
        x.weight(0, 0, 1);
        x.weight(0, 5, 5);
        due.is("flat 5 is 5", Told.shares(x, 0, 6), "60 60 60 60 60 300 ");
        due.is("the other house", Told.shares(x, 1, 6), "100 100 100 100 100 100 ");
    }

    private static void edges(Due due) {
        due.of("Promise 9", "0 .. 1000.");
        FeeRules x = billOf(1001, 2);
        due.is("-1", x.weight(0, 0, -1), false);
        due.is("1001", x.weight(0, 0, 1001), false);
        due.is("MIN", x.weight(0, 0, Integer.MIN_VALUE), false);
        due.is("MAX", x.weight(0, 0, Integer.MAX_VALUE), false);
        due.is("none of them counts", Told.shares(x, 0, 2), "501 500 ");
        due.is("1000", x.weight(0, 0, 1000), true);
        due.is("it counts", Told.shares(x, 0, 2), "1000 1 ");
        due.is("0", x.weight(0, 0, 0), true);
        due.is("it counts", Told.shares(x, 0, 2), "0 1001 ");
    }

    private static void answersTrue(Due due) {
        due.of("Promise 9", "Answers true, or false.");
        FeeRules x = Told.houses(1, 6);
        due.is("the only flat", x.weight(0, 0, 7), true);
        due.is("the same again", x.weight(0, 0, 7), true);
        for (int flat = 0; flat < 6; flat++) {
            due.is("flat " + flat, x.weight(1, flat, 0), true);
        }
    }

    private static void orFalse(Due due) {
        due.of("Promise 9", "Answers true, or false.");
        FeeRules x = billOf(600, 2, 6);
        due.is("house 2", x.weight(2, 0, 9), false);
        due.is("flat 2 of two", x.weight(0, 2, 9), false);
        due.is("flat 6 of two", x.weight(0, 6, 9), false);
        due.is("flat 6 of six", x.weight(1, 6, 9), false);
        for (int no : Told.NO_INTS) {
            due.is("house " + no, x.weight(no, 0, 9), false);
            due.is("flat " + no, x.weight(0, no, 9), false);
        }
        due.is("no weight of house 0 changed", Told.shares(x, 0, 2), "300 300 ");
        due.is("no weight of house 1 changed", Told.shares(x, 1, 6), "100 100 100 100 100 100 ");
    }
}
