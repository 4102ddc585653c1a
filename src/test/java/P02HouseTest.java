/** Promise 2: house. */
public final class P02HouseTest {
    public static void main(String[] args) {
        Due due = new Due("P02HouseTest");
        FeeRules x = new FeeRules();
        due.is("house(0)", x.house(0), -1);
        due.is("house(7)", x.house(7), -1);
        due.is("house(-1)", x.house(-1), -1);
        due.is("house(MIN)", x.house(Integer.MIN_VALUE), -1);
        due.is("house(MAX)", x.house(Integer.MAX_VALUE), -1);
        due.is("the refused ones made none", x.walk(0, 0, 0), -1);
        due.is("house(1)", x.house(1), 0);
        due.is("house(6)", x.house(6), 1);
        due.is("house(0) again", x.house(0), -1);
        due.is("house(3)", x.house(3), 2);
        due.is("no fourth one yet", x.walk(3, 0, 0), -1);
        due.is("house(2)", x.house(2), 3);
        due.is("a fifth one", x.house(1), -1);
        due.is("the fourth one is there", x.walk(3, 0, 0), 0);
        due.is("the fifth one is not", x.walk(4, 0, 0), -1);
        due.is("house 0 has flat 0", x.weight(0, 0, 1), true);
        due.is("house 0 has no flat 1", x.weight(0, 1, 1), false);
        due.is("house 1 has flat 5", x.weight(1, 5, 1), true);
        due.is("house 2 has flat 2", x.weight(2, 2, 1), true);
        due.is("house 2 has no flat 3", x.weight(2, 3, 1), false);
        due.is("house 3 has flat 1", x.weight(3, 1, 1), true);
        due.is("house 3 has no flat 2", x.weight(3, 2, 1), false);
        due.end();
    }
}
