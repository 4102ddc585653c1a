/** Promise 3: fact. */
public final class P03FactTest {
    public static void main(String[] args) {
        Due due = new Due("P03FactTest");
        wrongOnes(due);
        edges(due);
        full(due);
        due.end();
    }

    private static void wrongOnes(Due due) {
        FeeRules x = Told.houses(1);
        due.is("house 1", x.fact(1, 0, 0, 0, 0), -1);
        due.is("house -1", x.fact(-1, 0, 0, 0, 0), -1);
        due.is("kind 6", x.fact(0, 6, 0, 0, 0), -1);
        due.is("kind -1", x.fact(0, -1, 0, 0, 0), -1);
        due.is("day 3600", x.fact(0, 0, 3600, 0, 0), -1);
        due.is("day -1", x.fact(0, 0, -1, 0, 0), -1);
        due.is("day 2^32", x.fact(0, 0, 1L << 32, 0, 0), -1);
        due.is("measure 1000001", x.fact(0, 0, 0, 1000001, 0), -1);
        due.is("measure -1", x.fact(0, 0, 0, -1, 0), -1);
        due.is("measure 2^32", x.fact(0, 0, 0, 1L << 32, 0), -1);
        due.is("known 3600", x.fact(0, 0, 0, 0, 3600), -1);
        due.is("known -1", x.fact(0, 0, 0, 0, -1), -1);
        due.is("known 2^32", x.fact(0, 0, 0, 0, 1L << 32), -1);
        due.is("no fact was added", x.walk(0, 0, 3599), 0);
        due.is("the first fact", x.fact(0, 0, 0, 0, 0), 0);
    }

    private static void edges(Due due) {
        FeeRules x = Told.houses(1, 1);
        due.is("least", x.fact(0, 0, 0, 0, 0), 0);
        due.is("most", x.fact(1, 5, 3599, 1000000, 3599), 1);
        due.is("known before its day", x.fact(1, 5, 3599, 7, 0), 2);
        due.is("the same again", x.fact(1, 5, 3599, 7, 0), 3);
        due.is("walk(0, 0, 0)", x.walk(0, 0, 0), 1);
        due.is("its fact", x.line(0, 0), 0);
        due.is("walk(1, 119, 3598)", x.walk(1, 119, 3598), 2);
        due.is("walk(1, 119, 3599)", x.walk(1, 119, 3599), 3);
        due.is("printed", Told.printed(x), "5 1000000 ?\n5 7 ?\n5 7 ?\n");
    }

    private static void full(Due due) {
        FeeRules x = Told.houses(1, 1);
        for (int i = 0; i < 24; i++) {
            due.is("fact " + i, x.fact(i % 2, i % 6, i, i, 0), i);
        }
        due.is("a fact too much", x.fact(0, 0, 0, 0, 0), -1);
        due.is("a wrong fact too much", x.fact(9, 0, 0, 0, 0), -1);
        due.is("twelve of each house", x.walk(1, 0, 0), 12);
        due.is("the last one", x.line(11, 0), 23);
    }
}
