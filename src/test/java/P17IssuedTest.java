/** Promise 17: issued. */
public final class P17IssuedTest {
    public static void main(String[] args) {
        Due due = new Due("P17IssuedTest");
        FeeRules x = Told.houses(1, 1, 1, 1);
        due.is("house 4", x.issued(4, 0), Due.NO_AMOUNT);
        due.is("house -1", x.issued(-1, 0), Due.NO_AMOUNT);
        due.is("month 120", x.issued(0, 120), Due.NO_AMOUNT);
        due.is("month -1", x.issued(1, -1), Due.NO_AMOUNT);
        due.is("month MAX", x.issued(0, Integer.MAX_VALUE), Due.NO_AMOUNT);
        due.is("nothing", x.issued(3, 119), 0);
        Told.read(x, "kind 0 per 1 price 999999", 0, 0);
        for (int house = 0; house < 4; house++) {
            x.fact(house, 0, 30, house + 1, 0);
            x.fact(house, 0, 3599, 10, 5);
            x.fact(house, 0, 3599, 1000000, 0);
            due.is("issue " + house, x.issue(house, 1, 0), 999999L * (house + 1));
            due.is("issue 119 of " + house, x.issue(house, 119, 4), 999999000000L);
            due.is("issue 119 again of " + house, x.issue(house, 119, 5), 9999990L);
        }
        for (int house = 0; house < 4; house++) {
            due.is("issued " + house, x.issued(house, 1), 999999L * (house + 1));
            due.is("issued 119 of " + house, x.issued(house, 119), 999999000000L + 9999990L);
            due.is("issued 0 of " + house, x.issued(house, 0), 0);
        }
        x.cap(1, 0);
        due.is("a cap issues nothing itself", x.issued(0, 1), 999999);
        due.end();
    }
}
