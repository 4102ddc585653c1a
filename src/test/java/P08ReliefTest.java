/** Promise 8: relief. */
public final class P08ReliefTest {
    public static void main(String[] args) {
        Due due = new Due("P08ReliefTest");
        oneMore(due);
        bothDays(due);
        notTurnedRound(due);
        answersTrue(due);
        whenThereAreEight(due);
        notSuch(due);
        due.end();
    }

    private static void oneMore(Due due) {
        due.of("Promise 8", "One more relief:");
        FeeRules x = Told.houses(1, 1);
        Told.read(x, "kind 0 per 1 price 1 kind 5 per 1 price 1", 0, 0);
        x.fact(0, 0, 10, 1, 0);
        x.fact(0, 5, 10, 20, 0);
        x.fact(1, 0, 10, 300, 0);
        x.relief(0, 0, 10, 10);
        due.is("of the house and the kind", x.bill(0, 0, 0), 20);
        due.is("of that house alone", x.bill(1, 0, 0), 300);
        x.relief(0, 5, 0, 29);
        due.is("the first one stays", x.bill(0, 0, 0), 0);
        x.relief(1, 0, 0, 9);
        due.is("days before", x.bill(1, 0, 0), 300);
        x.relief(1, 0, 5, 15);
        due.is("over another one", x.bill(1, 0, 0), 0);
    }

    private static void bothDays(Due due) {
        due.of("Promise 8", "days from one to another, both with it");
        FeeRules x = Told.cents(1);
        long[] days = {9, 10, 11, 19, 20, 21};
        for (long day : days) {
            x.fact(0, 0, day, 1, 0);
        }
        x.fact(0, 0, 0, 1, 0);
        x.fact(0, 0, 3599, 1, 0);
        x.relief(0, 0, 10, 20);
        x.walk(0, 0, 0);
        due.is("days 9, 10, 11, 19, 20, 21, 0", Told.printed(x), "0 1 1\n0 1 0\n0 1 0\n0 1 0\n0 1 0\n0 1 1\n0 1 1\n");
        x.relief(0, 0, 0, 3599);
        due.is("the first day of all", x.bill(0, 0, 0), 0);
        due.is("the last day of all", x.bill(0, 119, 0), 0);
    }

    private static void notTurnedRound(Due due) {
        due.of("Promise 8", "the first not behind the second.");
        FeeRules x = Told.cents(1);
        x.fact(0, 0, 10, 5, 0);
        x.fact(0, 0, 11, 6, 0);
        due.is("from 11 to 10", x.relief(0, 0, 11, 10), false);
        due.is("from 3599 to 0", x.relief(0, 0, 3599, 0), false);
        due.is("none of them counts", x.bill(0, 0, 0), 11);
        due.is("from 10 to 10", x.relief(0, 0, 10, 10), true);
        due.is("it counts", x.bill(0, 0, 0), 6);
    }

    private static void answersTrue(Due due) {
        due.of("Promise 8", "Answers true");
        FeeRules x = Told.houses(1, 1, 1, 1);
        for (int i = 0; i < 4; i++) {
            due.is("relief of house " + i, x.relief(i, i, i, 3599), true);
            due.is("the same again", x.relief(i, i, i, 3599), true);
        }
    }

    private static void whenThereAreEight(Due due) {
        due.of("Promise 8", "false when there are 8");
        FeeRules x = Told.cents(1, 1);
        for (int i = 0; i < 7; i++) {
            x.relief(i % 2, 0, i, i);
            due.is("a wrong one between", x.relief(i % 2, 0, 1, 0), false);
        }
        due.is("when there are 7", x.relief(1, 0, 7, 7), true);
        due.is("when there are 8", x.relief(0, 0, 29, 29), false);
        due.is("when there are 8, of the other house", x.relief(1, 5, 29, 29), false);
        x.fact(1, 0, 7, 1, 0);
        x.fact(0, 0, 29, 1, 0);
        due.is("the eighth one counts", x.bill(1, 0, 0), 0);
        due.is("a ninth one does not", x.bill(0, 0, 0), 1);
    }

    private static void notSuch(Due due) {
        due.of("Promise 8", "or these are not such.");
        FeeRules x = Told.houses(1);
        due.is("house 1", x.relief(1, 0, 0, 0), false);
        due.is("kind 6", x.relief(0, 6, 0, 0), false);
        for (int no : Told.NO_INTS) {
            due.is("house " + no, x.relief(no, 0, 0, 0), false);
            due.is("kind " + no, x.relief(0, no, 0, 0), false);
        }
        for (long no : Told.NO_DAYS) {
            due.is("from " + no, x.relief(0, 0, no, 3599), false);
            due.is("to " + no, x.relief(0, 0, 0, no), false);
            due.is("the day " + no, x.relief(0, 0, no, no), false);
        }
        x.fact(0, 0, 10, 5, 0);
        due.is("none of them counts", x.bill(0, 0, 0), Due.NO_AMOUNT);
        for (int i = 0; i < 8; i++) {
            due.is("none of them was added", x.relief(0, 5, 3599, 3599), true);
        }
    }
}
