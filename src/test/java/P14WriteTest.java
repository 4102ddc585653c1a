/** Promise 14: write. */
public final class P14WriteTest {
    public static void main(String[] args) {
        Due due = new Due("P14WriteTest");
        FeeRules x = Told.houses(1);
        Told.read(x, "kind 0 per 1 price 1 kind 5 per 1 price 999999 kind 1 per 100 price 1", 0, 0);
        x.fact(0, 0, 0, 0, 0);
        x.fact(0, 5, 1, 1000000, 0);
        x.fact(0, 2, 2, 999999, 0);
        x.fact(0, 1, 3, 10, 0);
        x.fact(0, 0, 4, 1009, 0);
        x.fact(0, 3, 5, 9, 0);
        x.relief(0, 3, 5, 5);
        due.is("before a walk", x.write(0), -1);
        x.walk(0, 0, 0);
        String want = "0 0 0\n5 1000000 999999000000\n2 999999 ?\n1 10 0\n0 1009 1009\n3 9 0\n";
        due.is("all bytes", Told.printed(x), want);
        for (int i = 0; i < want.length(); i++) {
            due.is("write(" + i + ")", x.write(i), want.charAt(i));
        }
        due.is("behind the last", x.write(want.length()), -1);
        due.is("write(-1)", x.write(-1), -1);
        due.is("write(MAX)", x.write(Integer.MAX_VALUE), -1);
        due.is("write(MIN)", x.write(Integer.MIN_VALUE), -1);
        full(due);
        due.end();
    }

    // The longest lines there can be, in the greatest number.
    private static void full(Due due) {
        FeeRules x = Told.houses(1);
        Told.read(x, "kind 5 per 1 price 999999", 0, 0);
        StringBuilder want = new StringBuilder();
        for (int i = 0; i < 24; i++) {
            x.fact(0, 5, 29, 1000000, 0);
            want.append("5 1000000 999999000000\n");
        }
        due.is("walk of 24", x.walk(0, 0, 0), 24);
        due.is("24 lines", Told.printed(x), want.toString());
        due.is("their bill", x.bill(0, 0, 0), 24 * 999999000000L);
        due.is("walk of none", x.walk(0, 1, 0), 0);
        due.is("no byte", x.write(0), -1);
    }
}
