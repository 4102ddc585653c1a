/** Promise 12: line. */
public final class P12LineTest {
    public static void main(String[] args) {
        Due due = new Due("P12LineTest");
        FeeRules x = Told.houses(1);
        Told.read(x, "kind 0 per 1 price 999999 kind 1 per 0 price 1", 5, 0);
        Told.read(x, "kind 0 per 1 price 0", 7, 0);
        x.fact(0, 0, 4, 9, 0);
        x.fact(0, 1, 5, 9, 0);
        x.fact(0, 2, 5, 9, 0);
        x.fact(0, 0, 30, 9, 0);
        x.fact(0, 0, 6, 1000000, 0);
        x.fact(0, 0, 7, 9, 0);
        x.fact(0, 4, 8, 9, 0);
        x.fact(0, 1, 6, 9, 0);
        x.relief(0, 4, 8, 8);
        x.relief(0, 1, 6, 6);
        due.is("walk", x.walk(0, 0, 0), 7);
        long[][] want = {
            {0, -1, -1, 1},
            {1, -1, 0, 2},
            {2, -1, 0, 1},
            {4, 999999000000L, 0, 0},
            {5, 0, 1, 0},
            {6, 0, -1, 0},
            {7, 0, -1, 0},
        };
        for (int k = 0; k < want.length; k++) {
            for (int what = 0; what < 4; what++) {
                due.is("line(" + k + ", " + what + ")", x.line(k, what), want[k][what]);
            }
            due.is("line(" + k + ", 4)", x.line(k, 4), -1);
            due.is("line(" + k + ", -1)", x.line(k, -1), -1);
            due.is("line(" + k + ", MIN)", x.line(k, Integer.MIN_VALUE), -1);
        }
        for (int what = 0; what < 4; what++) {
            due.is("line(7, " + what + ")", x.line(7, what), -1);
            due.is("line(-1, " + what + ")", x.line(-1, what), -1);
            due.is("line(24, " + what + ")", x.line(24, what), -1);
            due.is("line(MAX, " + what + ")", x.line(Integer.MAX_VALUE, what), -1);
            due.is("line(MIN, " + what + ")", x.line(Integer.MIN_VALUE, what), -1);
        }
        due.end();
    }
}
