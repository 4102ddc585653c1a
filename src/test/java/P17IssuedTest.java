/** Promise 17: issued. */
public final class P17IssuedTest {
    public static void main(String[] args) {
        Due due = new Due("P17IssuedTest");
        allThatWasIssued(due);
        ofAHouseAndAMonth(due);
        noneSuch(due);
        due.end();
    }

    private static void allThatWasIssued(Due due) {
        due.of("Promise 17", "All that was issued of a house and a month, together");
        FeeRules x = Told.cents(1);
        due.is("nothing", x.issued(0, 0), 0);
        x.fact(0, 0, 0, 5, 0);
        due.is("a bill that was not issued", x.issued(0, 0), 0);
        x.issue(0, 0, 0);
        due.is("one bill", x.issued(0, 0), 5);
        x.fact(0, 0, 0, 20, 0);
        due.is("a fact that was told since", x.issued(0, 0), 5);
        x.issue(0, 0, 0);
        due.is("two bills", x.issued(0, 0), 25);
        x.cap(0, 1);
        due.is("a cap since", x.issued(0, 0), 25);
        x.issue(0, 0, 0);
        due.is("three bills", x.issued(0, 0), 1);
        x.reverse(0, 0);
        due.is("all taken back", x.issued(0, 0), 0);
    }

    private static void ofAHouseAndAMonth(Due due) {
        due.of("Promise 17", "of a house and a month");
        FeeRules x = Told.houses(1, 1, 1, 1);
        Told.read(x, "kind 0 per 1 price 999999", 0, 0);
        for (int house = 0; house < 4; house++) {
            x.fact(house, 0, 30, house + 1, 0);
            x.fact(house, 0, 3599, 10, 5);
            x.fact(house, 0, 3599, 1000000, 0);
            x.issue(house, 1, 0);
            x.issue(house, 119, 4);
            x.issue(house, 119, 5);
        }
        for (int house = 0; house < 4; house++) {
            due.is("month 0 of " + house, x.issued(house, 0), 0);
            due.is("month 1 of " + house, x.issued(house, 1), 999999L * (house + 1));
            due.is("month 118 of " + house, x.issued(house, 118), 0);
            due.is("month 119 of " + house, x.issued(house, 119), 999999000000L + 9999990L);
        }
    }

    private static void noneSuch(Due due) {
        due.of("Promise 17", "Long.MIN_VALUE when there are none such.");
        FeeRules x = Told.houses(1, 1, 1);
        due.is("house 2", x.issued(2, 119), 0);
        due.is("house 3", x.issued(3, 0), Due.NO_AMOUNT);
        x.house(1);
        due.is("house 3 is there", x.issued(3, 0), 0);
        due.is("house 4", x.issued(4, 0), Due.NO_AMOUNT);
        for (int no : Told.NO_INTS) {
            due.is("house " + no, x.issued(no, 0), Due.NO_AMOUNT);
        }
        for (int no : Told.NO_MONTHS) {
            due.is("month " + no, x.issued(0, no), Due.NO_AMOUNT);
            due.is("month " + no + " of the last house", x.issued(3, no), Due.NO_AMOUNT);
        }
    }
}
