/** Promise 2: house. */
public final class P02HouseTest {
    public static void main(String[] args) {
        Due due = new Due("P02HouseTest");
        oneMore(due);
        itsNumber(due);
        whenThereAreFour(due);
        flatsNotSuch(due);
        due.end();
    }

    private static void oneMore(Due due) {
        due.of("Promise 2", "One more house.");
        FeeRules x = new FeeRules();
        due.is("none is there", x.walk(0, 0, 0), -1);
        x.house(2);
        due.is("one is there", x.walk(0, 0, 0), 0);
        due.is("not a second one", x.walk(1, 0, 0), -1);
        x.house(3);
        due.is("a second one", x.walk(1, 0, 0), 0);
        due.is("flat 1 of house 0", x.weight(0, 1, 1), true);
        due.is("flat 2 of house 0", x.weight(0, 2, 1), false);
        due.is("flat 2 of house 1", x.weight(1, 2, 1), true);
        due.is("flat 3 of house 1", x.weight(1, 3, 1), false);
    }

    private static void itsNumber(Due due) {
        due.of("Promise 2", "Answers its number");
        FeeRules x = new FeeRules();
        for (int house = 0; house < 4; house++) {
            due.is("house " + house, x.house(6 - house), house);
        }
    }

    private static void whenThereAreFour(Due due) {
        due.of("Promise 2", "NONE when there are 4");
        FeeRules x = Told.houses(1, 1, 1);
        due.is("when there are 3", x.house(2), 3);
        due.is("when there are 4", x.house(1), -1);
        due.is("when there are 4, once more", x.house(6), -1);
        due.is("the fourth one stays as it is", x.weight(3, 1, 1), true);
        due.is("the fourth one stays as it is", x.weight(3, 2, 1), false);
    }

    private static void flatsNotSuch(Due due) {
        due.of("Promise 2", "or flats are not such.");
        FeeRules x = new FeeRules();
        due.is("0 flats", x.house(0), -1);
        due.is("7 flats", x.house(7), -1);
        for (int no : Told.NO_INTS) {
            due.is(no + " flats", x.house(no), -1);
        }
        due.is("none was added", x.walk(0, 0, 0), -1);
        due.is("1 flat", x.house(1), 0);
        due.is("6 flats", x.house(6), 1);
    }
}
