/** Promise 1: a new object holds nothing. */
public final class P01NewObjectTest {
    public static void main(String[] args) {
        Due due = new Due("P01NewObjectTest");
        FeeRules x = new FeeRules();
        due.is("NONE", FeeRules.NONE, -1);
        due.is("fact without a house", x.fact(0, 0, 0, 0, 0), -1);
        due.is("relief without a house", x.relief(0, 0, 0, 0), false);
        due.is("weight without a house", x.weight(0, 0, 1), false);
        due.is("bill without a house", x.bill(0, 0, 0), Due.NO_AMOUNT);
        due.is("walk without a house", x.walk(0, 0, 0), -1);
        due.is("flat without a house", x.flat(0, 0, 0, 0), Due.NO_AMOUNT);
        due.is("issue without a house", x.issue(0, 0, 0), Due.NO_AMOUNT);
        due.is("issued without a house", x.issued(0, 0), Due.NO_AMOUNT);
        due.is("reverse without a house", x.reverse(0, 0), Due.NO_AMOUNT);
        for (int what = 0; what < 4; what++) {
            due.is("edition(0, " + what + ")", x.edition(0, what), -1);
            due.is("line(0, " + what + ")", x.line(0, what), -1);
        }
        due.is("open(0)", x.open(0), -1);
        due.is("write(0)", x.write(0), -1);
        due.is("the first house", x.house(2), 0);
        due.is("the first fact", x.fact(0, 0, 0, 5, 0), 0);
        due.is("no edition is there", x.bill(0, 0, 0), Due.NO_AMOUNT);
        due.is("nothing was issued", x.issued(0, 0), 0);
        due.is("the text is empty", x.read(0, 0), 0);
        objectsAreApart(due);
        due.end();
    }

    private static void objectsAreApart(Due due) {
        FeeRules one = Told.houses(1);
        FeeRules two = new FeeRules();
        one.cap(0, 5);
        Told.text(one, "kind");
        due.is("a house of another object", two.bill(0, 0, 0), Due.NO_AMOUNT);
        due.is("a text of another object", two.read(0, 0), 0);
        due.is("the text of this object", one.read(0, 0), -2);
        due.is("house of the second object", two.house(1), 0);
        Told.read(two, "kind 0 per 1 price 1", 0, 0);
        two.fact(0, 0, 0, 9, 0);
        due.is("no month has a cap", two.bill(0, 0, 0), 9);
    }
}
