/** Promise 1: a new object. */
public final class P01NewObjectTest {
    public static void main(String[] args) {
        Due due = new Due("P01NewObjectTest");
        noHouses(due);
        noFacts(due);
        noEditions(due);
        noCaps(due);
        noReliefs(due);
        nothingWasWalked(due);
        nothingWasIssued(due);
        due.end();
    }

    private static void noHouses(Due due) {
        due.of("Promise 1", "No houses");
        FeeRules x = new FeeRules();
        due.is("fact of house 0", x.fact(0, 0, 0, 0, 0), -1);
        due.is("relief of house 0", x.relief(0, 0, 0, 0), false);
        due.is("weight of house 0", x.weight(0, 0, 1), false);
        due.is("bill of house 0", x.bill(0, 0, 0), Due.NO_AMOUNT);
        due.is("walk of house 0", x.walk(0, 0, 0), -1);
        due.is("flat of house 0", x.flat(0, 0, 0, 0), Due.NO_AMOUNT);
        due.is("issue of house 0", x.issue(0, 0, 0), Due.NO_AMOUNT);
        due.is("issued of house 0", x.issued(0, 0), Due.NO_AMOUNT);
        due.is("reverse of house 0", x.reverse(0, 0), Due.NO_AMOUNT);
        due.is("the first one", x.house(2), 0);
        due.is("a house of another object", new FeeRules().bill(0, 0, 0), Due.NO_AMOUNT);
    }

    private static void noFacts(Due due) {
        due.of("Promise 1", "facts");
        FeeRules x = Told.houses(1);
        due.is("walk of the first day", x.walk(0, 0, 3599), 0);
        due.is("walk of the last day", x.walk(0, 119, 3599), 0);
        due.is("the first one", x.fact(0, 0, 0, 5, 0), 0);
        due.is("a fact of another object", Told.houses(1).walk(0, 0, 0), 0);
    }

    private static void noEditions(Due due) {
        due.of("Promise 1", "editions");
        FeeRules x = Told.houses(1);
        for (int what = 0; what < 3; what++) {
            due.is("edition(0, " + what + ")", x.edition(0, what), -1);
        }
        for (int kind = 0; kind < 6; kind++) {
            x.fact(0, kind, 3599, 0, 0);
        }
        due.is("walk", x.walk(0, 119, 3599), 6);
        due.is("the lines", Told.held(x), "0 -1 -1 1; 1 -1 -1 1; 2 -1 -1 1; 3 -1 -1 1; 4 -1 -1 1; 5 -1 -1 1; ");
        due.is("no text", x.read(0, 0), 0);
        FeeRules one = new FeeRules();
        Told.text(one, "kind");
        due.is("a text of another object", new FeeRules().read(0, 0), 0);
    }

    private static void noCaps(Due due) {
        due.of("Promise 1", "caps");
        Told.cents(1).cap(0, 0);
        FeeRules x = Told.houses(1);
        Told.read(x, "kind 0 per 1 price 999999", 0, 0);
        x.fact(0, 0, 0, 1000000, 0);
        x.fact(0, 0, 0, 1000000, 0);
        x.fact(0, 0, 3599, 1000000, 0);
        x.fact(0, 0, 3599, 1000000, 0);
        due.is("the first month", x.bill(0, 0, 0), 1999998000000L);
        due.is("the last month", x.bill(0, 119, 0), 1999998000000L);
    }

    private static void noReliefs(Due due) {
        due.of("Promise 1", "reliefs");
        Told.cents(1).relief(0, 0, 0, 3599);
        FeeRules x = Told.houses(1);
        Told.read(x, "kind 0 per 1 price 1 kind 5 per 1 price 1", 0, 0);
        x.fact(0, 0, 0, 5, 0);
        x.fact(0, 5, 3599, 7, 0);
        due.is("the first day", x.bill(0, 0, 0), 5);
        due.is("the last day", x.bill(0, 119, 0), 7);
    }

    private static void nothingWasWalked(Due due) {
        due.of("Promise 1", "nothing was walked");
        FeeRules x = Told.cents(1);
        x.fact(0, 0, 0, 5, 0);
        x.fact(0, 1, 0, 5, 0);
        x.bill(0, 0, 0);
        for (int what = 0; what < 4; what++) {
            due.is("line(0, " + what + ")", x.line(0, what), -1);
        }
        due.is("open(0)", x.open(0), -1);
        due.is("write(0)", x.write(0), -1);
    }

    private static void nothingWasIssued(Due due) {
        due.of("Promise 1", "or issued.");
        FeeRules x = Told.cents(1, 1, 1, 1);
        x.fact(0, 0, 0, 5, 0);
        for (int house = 0; house < 4; house++) {
            due.is("issued of the first month of " + house, x.issued(house, 0), 0);
            due.is("issued of the last month of " + house, x.issued(house, 119), 0);
        }
        due.is("reverse", x.reverse(0, 0), 0);
        due.is("issue", x.issue(0, 0, 0), 5);
        due.is("what another object issued", Told.houses(1).issued(0, 0), 0);
    }
}
