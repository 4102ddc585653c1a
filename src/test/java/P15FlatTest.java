/** Promise 15: flat. */
public final class P15FlatTest {
    public static void main(String[] args) {
        Due due = new Due("P15FlatTest");
        byWeight(due);
        highestBill(due);
        singleCents(due);
        weightAboveZero(due);
        lesserNumbersFirst(due);
        noBill(due);
        noneSuch(due);
        allWeightsZero(due);
        due.end();
    }

    /** The shares of flats of these weights; in house 1, behind one of six flats. */
    private static String shares(int cents, int... weights) {
        FeeRules x = Told.cents(6, weights.length);
        x.fact(1, 0, 0, cents, 0);
        for (int flat = 0; flat < weights.length; flat++) {
            x.weight(1, flat, weights[flat]);
        }
        return Told.shares(x, 1, weights.length);
    }

    private static void byWeight(Due due) {
        due.of("Promise 15", "A flat's share of the bill: the bill times its weight over all weights of the house, down");
        due.is("60 by 1, 2, 3", shares(60, 1, 2, 3), "10 20 30 ");
        due.is("0 by 3, 0", shares(0, 3, 0), "0 0 ");
        due.is("5 by 9", shares(5, 9), "5 ");
        due.is("5 by 1000", shares(5, 1000), "5 ");
        due.is("1000000 by 1000, 0, 999, 1", shares(1000000, 1000, 0, 999, 1), "500000 0 499500 500 ");
        due.is("19 by 1, 1", shares(19, 1, 1), "10 9 ");
        due.is("273 by 57, 6, where fractions of numbers of the machine fall short", shares(273, 57, 6), "247 26 ");
        FeeRules x = Told.cents(2, 2);
        x.fact(0, 0, 0, 10, 0);
        x.fact(1, 0, 0, 100, 0);
        x.weight(1, 1, 1000);
        due.is("not by weights of another house", Told.shares(x, 0, 2), "5 5 ");
        x.cap(0, 6);
        due.is("of the bill, as its cap has it", Told.shares(x, 0, 2), "3 3 ");
        x.issue(0, 0, 0);
        due.is("not less by what was issued", Told.shares(x, 0, 2), "3 3 ");
        x.fact(0, 0, 30, 8, 7);
        due.is("of another month", x.flat(0, 1, 7, 1), 4);
        due.is("before it is known", x.flat(0, 1, 6, 1), 0);
    }

    private static void highestBill(Due due) {
        due.of("Promise 15", "the bill times its weight over all weights of the house, down");
        FeeRules x = Told.houses(6);
        Told.read(x, "kind 0 per 1 price 999999", 0, 0);
        for (int i = 0; i < 24; i++) {
            x.fact(0, 0, 0, 1000000, 0);
        }
        for (int flat = 0; flat < 6; flat++) {
            x.weight(0, flat, flat < 2 ? 1000 : flat == 2 ? 999 : 0);
        }
        due.is("of 23999976000000", Told.shares(x, 0, 6), "8002659553185 8002659553184 7994656893631 0 0 0 ");
        for (int flat = 0; flat < 6; flat++) {
            x.weight(0, flat, 1000);
        }
        due.is("by the highest weights", Told.shares(x, 0, 6),
            "3999996000000 3999996000000 3999996000000 3999996000000 3999996000000 3999996000000 ");
    }

    private static void singleCents(Due due) {
        due.of("Promise 15", "what is left goes by single cents");
        due.is("1 left of 7", shares(7, 1, 1, 1), "3 2 2 ");
        due.is("2 left of 8", shares(8, 1, 1, 1), "3 3 2 ");
        due.is("none left of 9", shares(9, 1, 1, 1), "3 3 3 ");
        due.is("5 left of 5", shares(5, 1, 1, 1, 1, 1, 1), "1 1 1 1 1 0 ");
        due.is("1 left of 1", shares(1, 1, 1000), "1 0 ");
        due.is("3 left of 999", shares(999, 1000, 999, 998, 997, 996, 995), "167 167 167 166 166 166 ");
        due.is("1 left of 10", shares(10, 1, 1000, 2), "1 9 0 ");
    }

    private static void weightAboveZero(Due due) {
        due.of("Promise 15", "to the flats with a weight above 0");
        due.is("1 left behind a weight of 0", shares(1, 0, 1, 1), "0 1 0 ");
        due.is("2 left of 8", shares(8, 0, 1, 0, 1, 1), "0 3 0 3 2 ");
        due.is("2 left of 2", shares(2, 0, 1, 1, 0, 1, 1), "0 1 1 0 0 0 ");
        due.is("2 left between weights of 0", shares(2, 1, 0, 0, 0, 1, 1), "1 0 0 0 1 0 ");
        due.is("the only weight", shares(7, 0, 0, 5, 0), "0 0 7 0 ");
    }

    private static void lesserNumbersFirst(Due due) {
        due.of("Promise 15", "the lesser numbers first.");
        due.is("not the greater weights", shares(1, 1, 2, 3), "1 0 0 ");
        due.is("not the greater rests", shares(10, 1, 1, 1000), "1 0 9 ");
        due.is("two of them", shares(2, 1, 2, 3), "1 0 1 ");
        due.is("up to the last but one", shares(11, 3, 3, 3, 3), "3 3 3 2 ");
    }

    private static void noBill(Due due) {
        due.of("Promise 15", "Long.MIN_VALUE when there is no bill");
        FeeRules x = Told.cents(2);
        x.fact(0, 0, 0, 6, 0);
        x.fact(0, 1, 0, 6, 1);
        due.is("a bill", Told.shares(x, 0, 2), "3 3 ");
        due.is("an open line", x.flat(0, 0, 1, 0), Due.NO_AMOUNT);
        x.weight(0, 1, 0);
        due.is("of a flat of weight 0", x.flat(0, 0, 1, 1), Due.NO_AMOUNT);
    }

    private static void noneSuch(Due due) {
        due.of("Promise 15", "there are none such");
        FeeRules x = Told.cents(2, 6);
        due.is("house 2", x.flat(2, 0, 0, 0), Due.NO_AMOUNT);
        due.is("flat 2 of two", x.flat(0, 0, 0, 2), Due.NO_AMOUNT);
        due.is("flat 6 of two", x.flat(0, 0, 0, 6), Due.NO_AMOUNT);
        due.is("flat 6 of six", x.flat(1, 0, 0, 6), Due.NO_AMOUNT);
        for (int no : Told.NO_INTS) {
            due.is("house " + no, x.flat(no, 0, 0, 0), Due.NO_AMOUNT);
            due.is("flat " + no, x.flat(0, 0, 0, no), Due.NO_AMOUNT);
        }
        for (int no : Told.NO_MONTHS) {
            due.is("month " + no, x.flat(0, no, 0, 0), Due.NO_AMOUNT);
        }
        for (long no : Told.NO_DAYS) {
            due.is("on " + no, x.flat(0, 0, no, 0), Due.NO_AMOUNT);
        }
        due.is("flat 1 of two", x.flat(0, 119, 3599, 1), 0);
        due.is("flat 5 of six", x.flat(1, 0, 0, 5), 0);
    }

    private static void allWeightsZero(Due due) {
        due.of("Promise 15", "or all weights are 0.");
        FeeRules x = Told.cents(2, 1);
        x.fact(0, 0, 0, 6, 0);
        x.weight(0, 0, 0);
        due.is("one of two", Told.shares(x, 0, 2), "0 6 ");
        x.weight(0, 1, 0);
        due.is("flat 0", x.flat(0, 0, 0, 0), Due.NO_AMOUNT);
        due.is("flat 1", x.flat(0, 0, 0, 1), Due.NO_AMOUNT);
        due.is("of a bill of 0", x.flat(0, 1, 0, 0), Due.NO_AMOUNT);
        due.is("there is a bill all the same", x.bill(0, 0, 0), 6);
        due.is("it is issued all the same", x.issue(0, 0, 0), 6);
        due.is("the other house", x.flat(1, 0, 0, 0), 0);
        x.weight(0, 1, 1);
        due.is("a weight again", Told.shares(x, 0, 2), "0 6 ");
    }
}
