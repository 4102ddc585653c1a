/** Promise 10: bill. */
public final class P10BillTest {
    public static void main(String[] args) {
        Due due = new Due("P10BillTest");
        theBill(due);
        whenThereIsNone(due);
        noneSuch(due);
        due.end();
    }

    private static void theBill(Due due) {
        due.of("Promise 10", "The bill;");
        FeeRules x = Told.houses(1, 1);
        Told.read(x, "kind 0 per 1 price 1 kind 5 per 10 price 3", 0, 0);
        due.is("of no lines", x.bill(0, 0, 0), 0);
        x.fact(0, 0, 0, 1, 0);
        x.fact(0, 5, 29, 109, 0);
        x.fact(0, 0, 30, 100, 0);
        x.fact(0, 0, 59, 1000, 50);
        x.fact(1, 0, 0, 10000, 0);
        x.fact(0, 0, 3599, 100000, 3599);
        due.is("month 0", x.bill(0, 0, 0), 33);
        due.is("month 1 before all is known", x.bill(0, 1, 49), 100);
        due.is("month 1 as all is known", x.bill(0, 1, 50), 1100);
        due.is("month 2", x.bill(0, 2, 3599), 0);
        due.is("house 1", x.bill(1, 0, 0), 10000);
        due.is("month 119 before it is known", x.bill(0, 119, 3598), 0);
        due.is("month 119", x.bill(0, 119, 3599), 100000);
        x.issue(0, 0, 0);
        due.is("not less by what was issued", x.bill(0, 0, 0), 33);
        x.cap(0, 32);
        due.is("at most the cap", x.bill(0, 0, 0), 32);
    }

    private static void whenThereIsNone(Due due) {
        due.of("Promise 10", "Long.MIN_VALUE when there is none");
        FeeRules x = Told.houses(1);
        Told.read(x, "kind 0 per 1 price 1 kind 1 per 0 price 1", 0, 0);
        x.fact(0, 0, 0, 7, 0);
        x.fact(0, 1, 10, 7, 5);
        x.fact(0, 2, 20, 7, 9);
        due.is("no open line is known", x.bill(0, 0, 4), 7);
        due.is("a fee that fails", x.bill(0, 0, 5), Due.NO_AMOUNT);
        x.relief(0, 1, 10, 10);
        due.is("relieved of it", x.bill(0, 0, 5), 7);
        due.is("no rule of the kind", x.bill(0, 0, 9), Due.NO_AMOUNT);
        Told.read(x, "kind 2 per 1 price 10", 20, 9);
        due.is("with a rule of it", x.bill(0, 0, 9), 77);
        x.read(1, 30);
        due.is("an edition without rules, from day 1", x.bill(0, 0, 30), 77);
        x.read(20, 31);
        due.is("an edition without rules, from day 20", x.bill(0, 0, 31), Due.NO_AMOUNT);
        x.cap(0, 0);
        due.is("with a cap of 0 too", x.bill(0, 0, 31), Due.NO_AMOUNT);
        due.is("asked on an earlier day", x.bill(0, 0, 30), 0);
    }

    private static void noneSuch(Due due) {
        due.of("Promise 10", "or there are none such.");
        FeeRules x = Told.houses(1);
        due.is("house 1", x.bill(1, 0, 0), Due.NO_AMOUNT);
        for (int no : Told.NO_INTS) {
            due.is("house " + no, x.bill(no, 0, 0), Due.NO_AMOUNT);
        }
        for (int no : Told.NO_MONTHS) {
            due.is("month " + no, x.bill(0, no, 0), Due.NO_AMOUNT);
        }
        for (long no : Told.NO_DAYS) {
            due.is("on " + no, x.bill(0, 0, no), Due.NO_AMOUNT);
        }
        due.is("the last month and day", x.bill(0, 119, 3599), 0);
    }
}
