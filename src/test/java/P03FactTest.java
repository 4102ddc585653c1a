/** Promise 3: fact. */
public final class P03FactTest {
    public static void main(String[] args) {
        Due due = new Due("P03FactTest");
        oneMore(due);
        itsNumber(due);
        whenThereAre24(due);
        notSuch(due);
        due.end();
    }

    private static void oneMore(Due due) {
        due.of("Promise 3", "One more fact.");
        FeeRules x = Told.houses(1, 1);
        x.fact(0, 0, 0, 0, 0);
        x.fact(1, 5, 3599, 1000000, 3599);
        x.fact(1, 5, 3599, 7, 0);
        x.fact(1, 5, 3599, 7, 0);
        due.is("the least", x.walk(0, 0, 0), 1);
        due.is("as printed", Told.printed(x), "0 0 ?\n");
        due.is("the most, not known yet", x.walk(1, 119, 3598), 2);
        due.is("the most, known", x.walk(1, 119, 3599), 3);
        due.is("as printed", Told.printed(x), "5 1000000 ?\n5 7 ?\n5 7 ?\n");
        x.fact(0, 0, 0, 3, 0);
        due.is("held lines stay as they were", Told.printed(x), "5 1000000 ?\n5 7 ?\n5 7 ?\n");
    }

    private static void itsNumber(Due due) {
        due.of("Promise 3", "Answers its number");
        FeeRules x = Told.houses(1, 1);
        for (int i = 0; i < 24; i++) {
            due.is("fact " + i, x.fact(i % 2, i % 6, 30 * i, i, i), i);
        }
    }

    private static void whenThereAre24(Due due) {
        due.of("Promise 3", "NONE when there are 24");
        FeeRules x = Told.cents(1);
        for (int i = 0; i < 23; i++) {
            x.fact(0, 0, 0, 1, 0);
        }
        due.is("when there are 23", x.fact(0, 0, 0, 5, 0), 23);
        due.is("when there are 24", x.fact(0, 0, 0, 9, 0), -1);
        due.is("when there are 24, not such", x.fact(9, 0, 0, 9, 0), -1);
        due.is("walk", x.walk(0, 0, 0), 24);
        due.is("the last one", x.line(23, 1), 5);
        due.is("no line behind it", x.line(24, 0), -1);
        due.is("the bill", x.bill(0, 0, 0), 28);
    }

    private static void notSuch(Due due) {
        due.of("Promise 3", "or these are not such.");
        FeeRules x = Told.houses(1);
        due.is("house 1", x.fact(1, 0, 0, 0, 0), -1);
        due.is("kind 6", x.fact(0, 6, 0, 0, 0), -1);
        for (int no : Told.NO_INTS) {
            due.is("house " + no, x.fact(no, 0, 0, 0, 0), -1);
            due.is("kind " + no, x.fact(0, no, 0, 0, 0), -1);
        }
        for (long no : Told.NO_DAYS) {
            due.is("day " + no, x.fact(0, 0, no, 0, 0), -1);
            due.is("known " + no, x.fact(0, 0, 0, 0, no), -1);
        }
        long[] noMeasures = {-1, 1000001, 1L << 32, Long.MIN_VALUE, Long.MAX_VALUE};
        for (long no : noMeasures) {
            due.is("measure " + no, x.fact(0, 0, 0, no, 0), -1);
        }
        due.is("none was added", x.walk(0, 0, 3599), 0);
        due.is("the next one", x.fact(0, 0, 0, 0, 0), 0);
        due.is("one known before its day", x.fact(0, 5, 3599, 1000000, 0), 1);
    }
}
