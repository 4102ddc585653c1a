/** Promise 7: cap. */
public final class P07CapTest {
    private static final long MOST = 1000000000000L;

    public static void main(String[] args) {
        Due due = new Due("P07CapTest");
        becomes(due);
        edges(due);
        answersTrue(due);
        orFalse(due);
        due.end();
    }

    /** Above the most that a cap can be in month 0, some cents in other months. */
    private static FeeRules highBills() {
        FeeRules x = Told.houses(1, 1);
        Told.read(x, "kind 0 per 1 price 999999", 0, 0);
        x.fact(0, 0, 0, 1000000, 0);
        x.fact(0, 0, 1, 1000000, 0);
        x.fact(1, 0, 29, 100, 0);
        x.fact(1, 0, 30, 100, 0);
        x.fact(1, 0, 3599, 1, 0);
        return x;
    }

    private static void becomes(Due due) {
        due.of("Promise 7", "A month's cap becomes");
        FeeRules x = highBills();
        due.is("none yet", x.bill(0, 0, 0), 1999998000000L);
        x.cap(0, 99999899L);
        due.is("of house 0", x.bill(0, 0, 0), 99999899L);
        due.is("of house 1", x.bill(1, 0, 0), 99999899L);
        due.is("not of the next month", x.bill(1, 1, 0), 99999900L);
        due.is("not of the last month", x.bill(1, 119, 0), 999999);
        x.cap(0, 5);
        due.is("less than before", x.bill(0, 0, 0), 5);
        x.cap(0, 7);
        due.is("more than before", x.bill(0, 0, 0), 7);
        x.cap(119, 3);
        due.is("of the last month", x.bill(1, 119, 0), 3);
        due.is("of a house that comes later", x.house(1), 2);
        x.fact(2, 0, 3599, 1, 0);
        due.is("too", x.bill(2, 119, 0), 3);
    }

    private static void edges(Due due) {
        due.of("Promise 7", "0 .. 1000000000000 cents.");
        FeeRules x = highBills();
        due.is("-1", x.cap(0, -1), false);
        due.is("10^12 + 1", x.cap(0, MOST + 1), false);
        due.is("MIN", x.cap(0, Long.MIN_VALUE), false);
        due.is("MAX", x.cap(0, Long.MAX_VALUE), false);
        due.is("none became the cap", x.bill(0, 0, 0), 1999998000000L);
        due.is("10^12", x.cap(0, MOST), true);
        due.is("the bill by it", x.bill(0, 0, 0), MOST);
        due.is("10^12 - 1", x.cap(0, MOST - 1), true);
        due.is("the bill by it", x.bill(0, 0, 0), MOST - 1);
        due.is("0", x.cap(0, 0), true);
        due.is("the bill by it", x.bill(0, 0, 0), 0);
    }

    private static void answersTrue(Due due) {
        due.of("Promise 7", "Answers true, or false.");
        FeeRules x = new FeeRules();
        due.is("month 0", x.cap(0, 5), true);
        due.is("month 119", x.cap(119, 5), true);
        due.is("the same again", x.cap(119, 5), true);
    }

    private static void orFalse(Due due) {
        due.of("Promise 7", "Answers true, or false.");
        FeeRules x = highBills();
        x.cap(0, 50);
        x.cap(119, 60);
        for (int no : Told.NO_MONTHS) {
            due.is("month " + no, x.cap(no, 1), false);
        }
        due.is("-1 cents", x.cap(0, -1), false);
        due.is("a cent too much", x.cap(119, MOST + 1), false);
        due.is("the cap of month 0 stays", x.bill(0, 0, 0), 50);
        due.is("the cap of month 119 stays", x.bill(1, 119, 0), 60);
    }
}
