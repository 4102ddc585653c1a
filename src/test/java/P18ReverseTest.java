/** Promise 18: reverse. */
public final class P18ReverseTest {
    public static void main(String[] args) {
        Due due = new Due("P18ReverseTest");
        FeeRules x = Told.houses(1, 1);
        due.is("house 2", x.reverse(2, 0), Due.NO_AMOUNT);
        due.is("house -1", x.reverse(-1, 0), Due.NO_AMOUNT);
        due.is("month 120", x.reverse(0, 120), Due.NO_AMOUNT);
        due.is("month -1", x.reverse(0, -1), Due.NO_AMOUNT);
        due.is("nothing was issued", x.reverse(0, 0), 0);
        Told.read(x, "kind 0 per 1 price 1", 0, 0);
        x.fact(0, 0, 0, 5, 0);
        x.fact(0, 0, 0, 20, 9);
        x.fact(0, 0, 3599, 7, 0);
        x.fact(1, 0, 0, 6, 0);
        x.issue(0, 0, 0);
        x.issue(0, 0, 9);
        x.issue(0, 119, 0);
        x.issue(1, 0, 0);
        due.is("all of it", x.reverse(0, 0), -25);
        due.is("nothing is issued then", x.issued(0, 0), 0);
        due.is("nothing more", x.reverse(0, 0), 0);
        due.is("the other month stays", x.issued(0, 119), 7);
        due.is("the other house stays", x.issued(1, 0), 6);
        due.is("issued anew", x.issue(0, 0, 0), 5);
        due.is("the last month", x.reverse(0, 119), -7);
        due.is("house 1", x.reverse(1, 0), -6);
        x.fact(0, 1, 0, 0, 0);
        due.is("also when a line is open", x.reverse(0, 0), -5);
        due.end();
    }
}
