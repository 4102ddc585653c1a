/** Promise 18: reverse. */
public final class P18ReverseTest {
    public static void main(String[] args) {
        Due due = new Due("P18ReverseTest");
        takesBack(due);
        belowZero(due);
        orZero(due);
        noneSuch(due);
        due.end();
    }

    private static FeeRules issued() {
        FeeRules x = Told.cents(1, 1);
        x.fact(0, 0, 0, 5, 0);
        x.fact(0, 0, 0, 20, 9);
        x.fact(0, 0, 3599, 7, 0);
        x.fact(1, 0, 0, 6, 0);
        x.issue(0, 0, 0);
        x.issue(0, 0, 9);
        x.issue(0, 119, 0);
        x.issue(1, 0, 0);
        return x;
    }

    private static void takesBack(Due due) {
        due.of("Promise 18", "Takes back what was issued.");
        FeeRules x = issued();
        x.reverse(0, 0);
        due.is("of the month", x.issued(0, 0), 0);
        due.is("not of another month", x.issued(0, 119), 7);
        due.is("not of another house", x.issued(1, 0), 6);
        due.is("the bill stays", x.bill(0, 0, 9), 25);
        due.is("issued anew", x.issue(0, 0, 0), 5);
        x.reverse(0, 119);
        due.is("of the last month", x.issued(0, 119), 0);
        due.is("what was issued anew stays", x.issued(0, 0), 5);
    }

    private static void belowZero(Due due) {
        due.of("Promise 18", "Answers how much that was, as a number below 0");
        FeeRules x = issued();
        due.is("two bills together", x.reverse(0, 0), -25);
        due.is("the last month", x.reverse(0, 119), -7);
        due.is("the other house", x.reverse(1, 0), -6);
        x.issue(0, 0, 0);
        x.fact(0, 1, 0, 0, 0);
        due.is("also when a line is open", x.reverse(0, 0), -5);
        FeeRules high = Told.houses(1);
        Told.read(high, "kind 0 per 1 price 999999", 0, 0);
        for (int i = 0; i < 24; i++) {
            high.fact(0, 0, 0, 1000000, 0);
        }
        high.issue(0, 0, 0);
        due.is("the highest bill", high.reverse(0, 0), -24 * 999999000000L);
    }

    private static void orZero(Due due) {
        due.of("Promise 18", "or 0;");
        FeeRules x = issued();
        due.is("nothing was issued", x.reverse(1, 119), 0);
        x.reverse(0, 0);
        due.is("all was taken back", x.reverse(0, 0), 0);
        x.cap(0, 0);
        x.issue(0, 0, 0);
        due.is("a bill of 0 was issued", x.reverse(0, 0), 0);
        x.cap(119, 0);
        x.issue(0, 119, 0);
        due.is("as much less was issued", x.reverse(0, 119), 0);
    }

    private static void noneSuch(Due due) {
        due.of("Promise 18", "Long.MIN_VALUE when there are none such.");
        FeeRules x = issued();
        due.is("house 2", x.reverse(2, 0), Due.NO_AMOUNT);
        for (int no : Told.NO_INTS) {
            due.is("house " + no, x.reverse(no, 0), Due.NO_AMOUNT);
        }
        for (int no : Told.NO_MONTHS) {
            due.is("month " + no, x.reverse(0, no), Due.NO_AMOUNT);
        }
        due.is("what was issued stays", x.issued(0, 0), 25);
        due.is("of the last month too", x.issued(0, 119), 7);
        due.is("of the other house too", x.issued(1, 0), 6);
    }
}
