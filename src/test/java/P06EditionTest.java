/** Promise 6: edition. */
public final class P06EditionTest {
    public static void main(String[] args) {
        Due due = new Due("P06EditionTest");
        FeeRules x = new FeeRules();
        x.read(7, 3599);
        Told.read(x, "kind 4 per 1 price 1 kind 2 per 0 price 1", 3599, 8);
        Told.read(x, "kind 4 per 1 x", 1, 2);
        Told.read(x, "kind 1 per 0 price 1", 30, 40);
        int[][] want = {{7, 3599, 0}, {3599, 8, 2}, {30, 40, 1}};
        for (int k = 0; k < want.length; k++) {
            for (int what = 0; what < 3; what++) {
                due.is("edition(" + k + ", " + what + ")", x.edition(k, what), want[k][what]);
            }
            due.is("edition(" + k + ", 3)", x.edition(k, 3), -1);
            due.is("edition(" + k + ", -1)", x.edition(k, -1), -1);
            due.is("edition(" + k + ", MAX)", x.edition(k, Integer.MAX_VALUE), -1);
        }
        for (int what = 0; what < 3; what++) {
            due.is("edition(3, " + what + ")", x.edition(3, what), -1);
            due.is("edition(-1, " + what + ")", x.edition(-1, what), -1);
            due.is("edition(6, " + what + ")", x.edition(6, what), -1);
            due.is("edition(MIN, " + what + ")", x.edition(Integer.MIN_VALUE, what), -1);
            due.is("edition(MAX, " + what + ")", x.edition(Integer.MAX_VALUE, what), -1);
        }
        due.end();
    }
}
