/** Promise 16: issue. */
public final class P16IssueTest {
    public static void main(String[] args) {
        Due due = new Due("P16IssueTest");
        whatIsMore(due);
        belowZeroWhenLess(due);
        isIssuedToo(due);
        answersThat(due);
        noBill(due);
        noneSuch(due);
        due.end();
    }

    private static FeeRules made() {
        FeeRules x = Told.houses(2, 1);
        Told.read(x, "kind 0 per 1 price 2", 0, 0);
        x.fact(0, 0, 0, 50, 0);
        x.fact(0, 0, 29, 7, 40);
        x.fact(0, 0, 30, 1, 0);
        x.fact(1, 0, 0, 3, 0);
        return x;
    }

    private static void whatIsMore(Due due) {
        due.of("Promise 16", "Issues the bill: what it is more than all that was issued of the house and month before");
        FeeRules x = made();
        due.is("the first one", x.issue(0, 0, 30), 100);
        due.is("nothing more", x.issue(0, 0, 39), 0);
        due.is("a fact that is told late", x.issue(0, 0, 40), 14);
        due.is("nothing more", x.issue(0, 0, 3599), 0);
        due.is("of the next month", x.issue(0, 1, 30), 2);
        due.is("of the next house", x.issue(1, 0, 30), 6);
        due.is("of no lines", x.issue(1, 119, 0), 0);
    }

    private static void belowZeroWhenLess(Due due) {
        due.of("Promise 16", "(below 0 when less)");
        FeeRules x = made();
        x.issue(0, 0, 40);
        x.issue(1, 0, 40);
        due.is("on an earlier day", x.issue(0, 0, 39), -14);
        x.cap(0, 5);
        due.is("by a cap", x.issue(0, 0, 39), -95);
        due.is("by a cap, of the other house", x.issue(1, 0, 39), -1);
        x.relief(0, 0, 0, 29);
        due.is("all is relieved", x.issue(0, 0, 40), -5);
        due.is("nothing less", x.issue(0, 0, 40), 0);
    }

    private static void isIssuedToo(Due due) {
        due.of("Promise 16", "is issued, too.");
        FeeRules x = made();
        x.issue(0, 0, 30);
        due.is("the first one", x.issued(0, 0), 100);
        x.issue(0, 0, 40);
        due.is("more", x.issued(0, 0), 114);
        x.issue(0, 0, 30);
        due.is("less", x.issued(0, 0), 100);
        due.is("not of the next month", x.issued(0, 1), 0);
        due.is("not of the next house", x.issued(1, 0), 0);
    }

    private static void answersThat(Due due) {
        due.of("Promise 16", "Answers that");
        FeeRules x = Told.houses(1);
        Told.read(x, "kind 0 per 1 price 999999", 0, 0);
        for (int i = 0; i < 12; i++) {
            x.fact(0, 0, 3599, 1000000, 0);
            x.fact(0, 0, 3570, 1000000, 9);
        }
        due.is("half of the highest bill", x.issue(0, 119, 8), 12 * 999999000000L);
        due.is("its other half", x.issue(0, 119, 9), 12 * 999999000000L);
        x.cap(119, 0);
        due.is("all of it less", x.issue(0, 119, 9), -24 * 999999000000L);
    }

    private static void noBill(Due due) {
        due.of("Promise 16", "Long.MIN_VALUE when there is no bill.");
        FeeRules x = made();
        x.fact(0, 1, 1, 0, 41);
        due.is("a bill", x.issue(0, 0, 40), 114);
        due.is("an open line", x.issue(0, 0, 41), Due.NO_AMOUNT);
        due.is("nothing was issued then", x.issued(0, 0), 114);
        due.is("a bill again", x.issue(0, 0, 39), -14);
    }

    private static void noneSuch(Due due) {
        due.of("Promise 16", "Long.MIN_VALUE when there is no bill.");
        FeeRules x = made();
        due.is("house 2", x.issue(2, 0, 0), Due.NO_AMOUNT);
        for (int no : Told.NO_INTS) {
            due.is("house " + no, x.issue(no, 0, 0), Due.NO_AMOUNT);
        }
        for (int no : Told.NO_MONTHS) {
            due.is("month " + no, x.issue(0, no, 0), Due.NO_AMOUNT);
        }
        for (long no : Told.NO_DAYS) {
            due.is("on " + no, x.issue(0, 0, no), Due.NO_AMOUNT);
        }
        due.is("nothing was issued", x.issued(0, 0), 0);
        due.is("the last ones", x.issue(1, 119, 3599), 0);
    }
}
