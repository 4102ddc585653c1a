/** Promise 11: walk. */
public final class P11WalkTest {
    public static void main(String[] args) {
        Due due = new Due("P11WalkTest");
        walks(due);
        howMany(due);
        noneSuch(due);
        heldAsTheyWere(due);
        untilTheNext(due);
        notUntilARefusedOne(due);
        due.end();
    }

    private static FeeRules fiveFacts() {
        FeeRules x = Told.houses(1, 1);
        x.fact(0, 3, 5, 50, 10);
        x.fact(1, 0, 5, 51, 0);
        x.fact(0, 0, 2, 52, 0);
        x.fact(0, 0, 30, 53, 0);
        x.fact(0, 0, 29, 54, 9);
        return x;
    }

    private static void walks(Due due) {
        due.of("Promise 11", "Walks the lines.");
        FeeRules x = fiveFacts();
        x.walk(0, 0, 8);
        due.is("on 8", Told.held(x), "2 -1 -1 1; ");
        x.walk(0, 0, 9);
        due.is("on 9", Told.held(x), "2 -1 -1 1; 4 -1 -1 1; ");
        x.walk(0, 0, 10);
        due.is("on 10", Told.held(x), "0 -1 -1 1; 2 -1 -1 1; 4 -1 -1 1; ");
        x.walk(0, 1, 10);
        due.is("the next month", Told.held(x), "3 -1 -1 1; ");
        x.walk(1, 0, 10);
        due.is("the other house", Told.held(x), "1 -1 -1 1; ");
    }

    private static void howMany(Due due) {
        due.of("Promise 11", "Answers how many there are");
        FeeRules x = Told.houses(1);
        for (int i = 0; i < 24; i++) {
            due.is("walk of " + i, x.walk(0, 119, 3599), i);
            x.fact(0, i % 6, 3570 + i, 0, 3599);
        }
        due.is("walk of 24", x.walk(0, 119, 3599), 24);
        due.is("walk on the day before", x.walk(0, 119, 3598), 0);
        due.is("walk of the month before", x.walk(0, 118, 3599), 0);
    }

    private static void noneSuch(Due due) {
        due.of("Promise 11", "NONE when there are none such.");
        FeeRules x = Told.houses(1, 1);
        due.is("house 2", x.walk(2, 0, 0), -1);
        for (int no : Told.NO_INTS) {
            due.is("house " + no, x.walk(no, 0, 0), -1);
        }
        for (int no : Told.NO_MONTHS) {
            due.is("month " + no, x.walk(0, no, 0), -1);
        }
        for (long no : Told.NO_DAYS) {
            due.is("on " + no, x.walk(0, 0, no), -1);
        }
        due.is("the last ones", x.walk(1, 119, 3599), 0);
    }

    private static void heldAsTheyWere(Due due) {
        due.of("Promise 11", "They are held");
        FeeRules x = fiveFacts();
        due.is("walk", x.walk(0, 0, 10), 3);
        Told.read(x, "kind 0 per 1 price 2 kind 3 per 1 price 3", 0, 0);
        x.relief(0, 0, 29, 29);
        x.fact(0, 0, 1, 55, 0);
        x.cap(0, 300);
        x.weight(0, 0, 0);
        x.issue(0, 0, 10);
        x.flat(0, 0, 10, 0);
        due.is("the bill is a new one", x.bill(0, 0, 10), 300);
        due.is("the lines are not", Told.held(x), "0 -1 -1 1; 2 -1 -1 1; 4 -1 -1 1; ");
        due.is("as printed", Told.printed(x), "3 50 ?\n0 52 ?\n0 54 ?\n");
        due.is("the third open one", x.open(2), 4);
        x.reverse(0, 0);
        x.house(1);
        due.is("a bill of another month", x.bill(0, 1, 10), 106);
        due.is("the lines are the same", x.line(2, 0), 4);
    }

    private static void untilTheNext(Due due) {
        due.of("Promise 11", "until the next walk");
        FeeRules x = fiveFacts();
        due.is("walk of 3", x.walk(0, 0, 10), 3);
        Told.read(x, "kind 0 per 1 price 2 kind 3 per 1 price 3", 0, 0);
        due.is("the same walk again", x.walk(0, 0, 10), 3);
        due.is("held anew", Told.held(x), "0 150 0 0; 2 104 0 0; 4 108 0 0; ");
        due.is("none is open any more", x.open(0), -1);
        due.is("walk of 1", x.walk(1, 0, 0), 1);
        due.is("one is held", Told.held(x), "1 102 0 0; ");
        due.is("one is printed", Told.printed(x), "0 51 102\n");
        due.is("no second line", x.line(1, 0), -1);
        due.is("walk of none", x.walk(1, 1, 0), 0);
        due.is("none is held", Told.held(x), "");
        due.is("none is printed", Told.printed(x), "");
    }

    private static void notUntilARefusedOne(Due due) {
        due.of("Promise 11", "that is not refused.");
        FeeRules x = fiveFacts();
        x.walk(0, 0, 10);
        due.is("of house 2", x.walk(2, 0, 10), -1);
        due.is("three are held", Told.held(x), "0 -1 -1 1; 2 -1 -1 1; 4 -1 -1 1; ");
        due.is("of month 120", x.walk(0, 120, 10), -1);
        due.is("three are printed", Told.printed(x), "3 50 ?\n0 52 ?\n0 54 ?\n");
        due.is("on 3600", x.walk(0, 0, 3600), -1);
        due.is("the third open one", x.open(2), 4);
        due.is("on -1", x.walk(0, 0, -1), -1);
        due.is("the third line", x.line(2, 0), 4);
    }
}
