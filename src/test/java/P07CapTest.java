/** Promise 7: cap. */
public final class P07CapTest {
    public static void main(String[] args) {
        Due due = new Due("P07CapTest");
        FeeRules x = Told.houses(1, 1);
        Told.read(x, "kind 0 per 1 price 999999", 0, 0);
        x.fact(0, 0, 0, 1000000, 0);
        x.fact(0, 0, 1, 1000000, 0);
        x.fact(1, 0, 29, 100, 0);
        x.fact(1, 0, 30, 100, 0);
        x.fact(1, 0, 3599, 1, 0);
        due.is("no cap", x.bill(0, 0, 0), 1999998000000L);
        due.is("cap(0, -1)", x.cap(0, -1), false);
        due.is("cap(0, 10^12 + 1)", x.cap(0, 1000000000001L), false);
        due.is("cap(-1, 0)", x.cap(-1, 0), false);
        due.is("cap(120, 0)", x.cap(120, 0), false);
        due.is("cap(MIN, 0)", x.cap(Integer.MIN_VALUE, 0), false);
        due.is("cap(0, MIN)", x.cap(0, Long.MIN_VALUE), false);
        due.is("still no cap", x.bill(0, 0, 0), 1999998000000L);
        due.is("cap(0, 10^12)", x.cap(0, 1000000000000L), true);
        due.is("the most cap", x.bill(0, 0, 0), 1000000000000L);
        due.is("a refused cap", x.cap(0, -1), false);
        due.is("the cap stays", x.bill(0, 0, 0), 1000000000000L);
        due.is("a lesser bill", x.bill(1, 0, 0), 99999900L);
        due.is("cap(0, 99999900)", x.cap(0, 99999900L), true);
        due.is("a bill as high as its cap", x.bill(1, 0, 0), 99999900L);
        due.is("cap(0, 99999899)", x.cap(0, 99999899L), true);
        due.is("a bill above its cap", x.bill(1, 0, 0), 99999899L);
        due.is("of each house", x.bill(0, 0, 0), 99999899L);
        due.is("another month", x.bill(1, 1, 0), 99999900L);
        due.is("cap(0, 0)", x.cap(0, 0), true);
        due.is("a cap of nothing", x.bill(0, 0, 0), 0);
        due.is("cap(0, 7)", x.cap(0, 7), true);
        due.is("a cap that rises", x.bill(0, 0, 0), 7);
        due.is("cap(119, 3)", x.cap(119, 3), true);
        due.is("the last month", x.bill(1, 119, 0), 3);
        x.fact(0, 1, 2, 0, 0);
        due.is("an open line under a cap", x.bill(0, 0, 0), Due.NO_AMOUNT);
        due.end();
    }
}
