/** Promise 16: issue. */
public final class P16IssueTest {
    public static void main(String[] args) {
        Due due = new Due("P16IssueTest");
        FeeRules x = Told.houses(2, 1);
        due.is("house 2", x.issue(2, 0, 0), Due.NO_AMOUNT);
        due.is("house -1", x.issue(-1, 0, 0), Due.NO_AMOUNT);
        due.is("month 120", x.issue(0, 120, 0), Due.NO_AMOUNT);
        due.is("month -1", x.issue(0, -1, 0), Due.NO_AMOUNT);
        due.is("on 3600", x.issue(0, 0, 3600), Due.NO_AMOUNT);
        due.is("on -1", x.issue(0, 0, -1), Due.NO_AMOUNT);
        due.is("no lines", x.issue(0, 0, 0), 0);
        Told.read(x, "kind 0 per 1 price 2", 0, 0);
        x.fact(0, 0, 0, 50, 0);
        x.fact(0, 0, 29, 7, 40);
        x.fact(0, 0, 30, 1, 0);
        x.fact(1, 0, 0, 3, 0);
        due.is("the first bill", x.issue(0, 0, 30), 100);
        due.is("nothing more", x.issue(0, 0, 39), 0);
        due.is("a fact told late", x.issue(0, 0, 40), 14);
        due.is("issued", x.issued(0, 0), 114);
        due.is("asked on an earlier day", x.issue(0, 0, 30), -14);
        due.is("issued", x.issued(0, 0), 100);
        due.is("the next month is apart", x.issue(0, 1, 30), 2);
        due.is("the next house is apart", x.issue(1, 0, 30), 6);
        x.cap(0, 5);
        due.is("less by a cap", x.issue(0, 0, 30), -95);
        due.is("less by a cap, house 1", x.issue(1, 0, 30), -1);
        x.relief(0, 0, 0, 29);
        due.is("all was relieved", x.issue(0, 0, 40), -5);
        due.is("nothing less", x.issue(0, 0, 40), 0);
        x.fact(0, 1, 31, 0, 0);
        due.is("an open line", x.issue(0, 1, 30), Due.NO_AMOUNT);
        due.is("it issued nothing", x.issued(0, 1), 2);
        due.is("the last month", x.issue(0, 119, 0), 0);
        due.end();
    }
}
