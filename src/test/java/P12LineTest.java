/** Promise 12: line. */
public final class P12LineTest {
    private static final long[][] WANT = {
        {0, -1, -1, 1},
        {1, -1, 0, 2},
        {2, -1, 0, 1},
        {4, 999999000000L, 0, 0},
        {5, 0, 1, 0},
        {6, 0, -1, 0},
        {7, 0, -1, 0},
    };

    public static void main(String[] args) {
        Due due = new Due("P12LineTest");
        due.of("Promise 12", "Of the k-th line that is held: what = 0 its fact");
        ask(due, 0);
        due.of("Promise 12", "1 its cents");
        ask(due, 1);
        noCents(due);
        due.of("Promise 12", "2 its edition");
        ask(due, 2);
        noEdition(due);
        due.of("Promise 12", "3 what it lacks");
        ask(due, 3);
        noSuchLine(due);
        nothingSuchOfIt(due);
        due.end();
    }

    /** Lines without an edition, a fee, a rule; with a high fee, with none; relieved ones. */
    private static FeeRules walked() {
        FeeRules x = Told.houses(1);
        Told.read(x, "kind 0 per 1 price 999999 kind 1 per 0 price 1", 5, 0);
        Told.read(x, "kind 0 per 1 price 0", 7, 0);
        x.fact(0, 0, 4, 9, 0);
        x.fact(0, 1, 5, 9, 0);
        x.fact(0, 2, 5, 9, 0);
        x.fact(0, 0, 30, 9, 0);
        x.fact(0, 0, 6, 1000000, 0);
        x.fact(0, 0, 7, 9, 0);
        x.fact(0, 4, 8, 9, 0);
        x.fact(0, 1, 6, 9, 0);
        x.relief(0, 4, 8, 8);
        x.relief(0, 1, 6, 6);
        x.walk(0, 0, 0);
        return x;
    }

    private static void ask(Due due, int what) {
        FeeRules x = walked();
        for (int k = 0; k < WANT.length; k++) {
            due.is("line(" + k + ", " + what + ")", x.line(k, what), WANT[k][what]);
        }
    }

    private static void noCents(Due due) {
        due.of("Promise 12", "(NONE when it is open)");
        FeeRules x = walked();
        due.is("lacking an edition", x.line(0, 1), -1);
        due.is("lacking a fee", x.line(1, 1), -1);
        due.is("lacking a rule", x.line(2, 1), -1);
        due.is("of no price", x.line(4, 1), 0);
        due.is("relieved", x.line(5, 1), 0);
    }

    private static void noEdition(Due due) {
        due.of("Promise 12", "(NONE when it has none)");
        FeeRules x = walked();
        due.is("lacking it", x.line(0, 2), -1);
        due.is("lacking a fee by it", x.line(1, 2), 0);
        due.is("lacking a rule of it", x.line(2, 2), 0);
        due.is("relieved", x.line(5, 2), -1);
    }

    private static void noSuchLine(Due due) {
        due.of("Promise 12", "NONE when there are none such.");
        FeeRules x = walked();
        int[] none = {7, 8, 23, 24, -1, Integer.MIN_VALUE, Integer.MAX_VALUE};
        for (int k : none) {
            for (int what = 0; what < 4; what++) {
                due.is("line(" + k + ", " + what + ")", x.line(k, what), -1);
            }
        }
        x.walk(0, 1, 0);
        due.is("the only one", x.line(0, 0), 3);
        due.is("one that was held before", x.line(1, 0), -1);
        x.walk(0, 2, 0);
        due.is("of no lines", x.line(0, 3), -1);
    }

    private static void nothingSuchOfIt(Due due) {
        due.of("Promise 12", "NONE when there are none such.");
        FeeRules x = walked();
        int[] none = {4, 5, -1, Integer.MIN_VALUE, Integer.MAX_VALUE};
        for (int what : none) {
            for (int k = 0; k < WANT.length; k++) {
                due.is("line(" + k + ", " + what + ")", x.line(k, what), -1);
            }
        }
    }
}
