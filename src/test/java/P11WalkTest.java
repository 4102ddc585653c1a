/** Promise 11: walk. */
public final class P11WalkTest {
    public static void main(String[] args) {
        Due due = new Due("P11WalkTest");
        FeeRules x = Told.houses(1, 1);
        x.fact(0, 3, 5, 50, 10);
        x.fact(1, 0, 5, 51, 0);
        x.fact(0, 0, 2, 52, 0);
        x.fact(0, 0, 30, 53, 0);
        x.fact(0, 0, 29, 54, 9);
        due.is("walk of no lines", x.walk(0, 7, 0), 0);
        due.is("walk(0, 0, 8)", x.walk(0, 0, 8), 1);
        due.is("its line", x.line(0, 0), 2);
        due.is("walk(0, 0, 9)", x.walk(0, 0, 9), 2);
        due.is("walk(0, 0, 10)", x.walk(0, 0, 10), 3);
        due.is("by numbers", x.line(0, 0), 0);
        due.is("by numbers", x.line(1, 0), 2);
        due.is("by numbers", x.line(2, 0), 4);
        due.is("walk of house 2", x.walk(2, 0, 0), -1);
        due.is("walk of house -1", x.walk(-1, 0, 0), -1);
        due.is("walk of month 120", x.walk(0, 120, 0), -1);
        due.is("walk of month -1", x.walk(0, -1, 0), -1);
        due.is("walk on 3600", x.walk(0, 0, 3600), -1);
        due.is("walk on -1", x.walk(0, 0, -1), -1);
        due.is("walk on 2^32", x.walk(0, 0, 1L << 32), -1);
        due.is("they are held", Told.printed(x), "3 50 ?\n0 52 ?\n0 54 ?\n");
        heldAsTheyWere(due, x);
        due.is("walk of a lesser number", x.walk(1, 0, 0), 1);
        due.is("only these are held", Told.printed(x), "0 51 102\n");
        due.is("no second line", x.line(1, 0), -1);
        due.is("walk of none", x.walk(1, 1, 0), 0);
        due.is("none is held", Told.printed(x), "");
        due.is("no first line", x.line(0, 0), -1);
        due.end();
    }

    private static void heldAsTheyWere(Due due, FeeRules x) {
        Told.read(x, "kind 0 per 1 price 2 kind 3 per 1 price 3", 0, 0);
        x.relief(0, 0, 29, 29);
        x.fact(0, 0, 1, 55, 0);
        x.issue(0, 0, 10);
        due.is("bill by the new edition", x.bill(0, 0, 10), 364);
        x.flat(0, 0, 10, 0);
        due.is("held as they were", Told.printed(x), "3 50 ?\n0 52 ?\n0 54 ?\n");
        due.is("the cents of line 0", x.line(0, 1), -1);
        due.is("the edition of line 0", x.line(0, 2), -1);
        due.is("what line 0 lacks", x.line(0, 3), 1);
        due.is("the third open one", x.open(2), 4);
        due.is("a new walk", x.walk(0, 0, 10), 4);
        due.is("held anew", Told.printed(x), "3 50 150\n0 52 104\n0 54 0\n0 55 110\n");
    }
}
