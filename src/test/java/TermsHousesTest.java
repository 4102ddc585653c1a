/** Terms: houses and flats, days and months, facts. */
public final class TermsHousesTest {
    private static final int[] MONTHS = {0, 119};
    private static final long[] DAYS = {0, 3599};

    public static void main(String[] args) {
        Due due = new Due("TermsHousesTest");
        housesFromZeroOn(due);
        fourHousesAtMost(due);
        oneToSixFlats(due);
        weightOneAtFirst(due);
        daysOfFacts(due);
        daysOfEditions(due);
        daysOfReliefs(due);
        daysToAskOn(due);
        months(due);
        aMonthIsADayOver30(due);
        factsFromZeroOn(due);
        twentyFourFactsAtMost(due);
        factsOfAHouse(due);
        factsOfAKind(due);
        factsOnADay(due);
        factsOfAMeasure(due);
        factsKnownFromADayOn(due);
        due.end();
    }

    private static void housesFromZeroOn(Due due) {
        due.of("Terms", "HOUSES are numbered from 0 on");
        FeeRules x = new FeeRules();
        due.is("house(1)", x.house(1), 0);
        due.is("a refused one", x.house(7), -1);
        due.is("house(6)", x.house(6), 1);
        due.is("house(1)", x.house(1), 2);
        due.is("house(2)", x.house(2), 3);
    }

    private static void fourHousesAtMost(Due due) {
        due.of("Terms", "4 at most, each");
        FeeRules x = Told.houses(1, 1, 1);
        due.is("there is no fourth one", x.issued(3, 0), Due.NO_AMOUNT);
        due.is("the fourth one", x.house(1), 3);
        due.is("it is there", x.issued(3, 0), 0);
        due.is("a fifth one", x.house(1), -1);
        due.is("it is not there", x.issued(4, 0), Due.NO_AMOUNT);
    }

    private static void oneToSixFlats(Due due) {
        due.of("Terms", "each of 1 .. 6 FLATS");
        FeeRules x = new FeeRules();
        due.is("house(0)", x.house(0), -1);
        due.is("house(7)", x.house(7), -1);
        due.is("house(1)", x.house(1), 0);
        due.is("house(6)", x.house(6), 1);
        due.is("flat 0 of one", x.weight(0, 0, 1), true);
        due.is("flat 1 of one", x.weight(0, 1, 1), false);
        due.is("flat 5 of six", x.weight(1, 5, 1), true);
        due.is("flat 6 of six", x.weight(1, 6, 1), false);
    }

    private static void weightOneAtFirst(Due due) {
        due.of("Terms", "each flat of a WEIGHT, 1 at first");
        FeeRules x = Told.cents(6, 2);
        x.fact(0, 0, 0, 800, 0);
        x.fact(1, 0, 0, 400, 0);
        due.is("the first flat's 3 of 8", x.weight(0, 0, 3), true);
        due.is("shares of six", Told.shares(x, 0, 6), "300 100 100 100 100 100 ");
        due.is("the last flat's 3 of 4", x.weight(1, 1, 3), true);
        due.is("shares of two", Told.shares(x, 1, 2), "100 300 ");
    }

    private static void daysOfFacts(Due due) {
        due.of("Terms", "DAYS are 0 .. 3599");
        FeeRules x = Told.houses(1);
        for (long no : Told.NO_DAYS) {
            due.is("a fact of day " + no, x.fact(0, 0, no, 1, 0), -1);
            due.is("a fact known from " + no, x.fact(0, 0, 0, 1, no), -1);
        }
        due.is("a fact of day 0, known from 0", x.fact(0, 0, 0, 1, 0), 0);
        due.is("a fact of day 3599, known from 3599", x.fact(0, 0, 3599, 1, 3599), 1);
    }

    private static void daysOfEditions(Due due) {
        due.of("Terms", "DAYS are 0 .. 3599");
        FeeRules x = new FeeRules();
        for (long no : Told.NO_DAYS) {
            due.is("an edition from day " + no, x.read(no, 0), -1000);
            due.is("an edition known from " + no, x.read(0, no), -1000);
        }
        due.is("an edition from day 0, known from 0", x.read(0, 0), 0);
        due.is("an edition from day 3599, known from 3599", x.read(3599, 3599), 0);
    }

    private static void daysOfReliefs(Due due) {
        due.of("Terms", "DAYS are 0 .. 3599");
        FeeRules x = Told.houses(1);
        for (long no : Told.NO_DAYS) {
            due.is("a relief from " + no, x.relief(0, 0, no, 3599), false);
            due.is("a relief to " + no, x.relief(0, 0, 0, no), false);
            due.is("a relief of the day " + no, x.relief(0, 0, no, no), false);
        }
        due.is("a relief of day 0", x.relief(0, 0, 0, 0), true);
        due.is("a relief of day 3599", x.relief(0, 0, 3599, 3599), true);
        due.is("a relief of all days", x.relief(0, 0, 0, 3599), true);
    }

    private static void daysToAskOn(Due due) {
        due.of("Terms", "DAYS are 0 .. 3599");
        FeeRules x = Told.houses(1);
        for (long no : Told.NO_DAYS) {
            due.is("bill on " + no, x.bill(0, 0, no), Due.NO_AMOUNT);
            due.is("walk on " + no, x.walk(0, 0, no), -1);
            due.is("flat on " + no, x.flat(0, 0, no, 0), Due.NO_AMOUNT);
            due.is("issue on " + no, x.issue(0, 0, no), Due.NO_AMOUNT);
        }
        for (long day : DAYS) {
            due.is("bill on " + day, x.bill(0, 0, day), 0);
            due.is("walk on " + day, x.walk(0, 0, day), 0);
            due.is("flat on " + day, x.flat(0, 0, day, 0), 0);
            due.is("issue on " + day, x.issue(0, 0, day), 0);
        }
    }

    private static void months(Due due) {
        due.of("Terms", "a MONTH, 0 .. 119");
        FeeRules x = Told.houses(1);
        for (int no : Told.NO_MONTHS) {
            due.is("cap of " + no, x.cap(no, 0), false);
            due.is("bill of " + no, x.bill(0, no, 0), Due.NO_AMOUNT);
            due.is("walk of " + no, x.walk(0, no, 0), -1);
            due.is("flat of " + no, x.flat(0, no, 0, 0), Due.NO_AMOUNT);
            due.is("issue of " + no, x.issue(0, no, 0), Due.NO_AMOUNT);
            due.is("issued of " + no, x.issued(0, no), Due.NO_AMOUNT);
            due.is("reverse of " + no, x.reverse(0, no), Due.NO_AMOUNT);
        }
        for (int month : MONTHS) {
            due.is("cap of " + month, x.cap(month, 0), true);
            due.is("bill of " + month, x.bill(0, month, 0), 0);
            due.is("walk of " + month, x.walk(0, month, 0), 0);
            due.is("flat of " + month, x.flat(0, month, 0, 0), 0);
            due.is("issue of " + month, x.issue(0, month, 0), 0);
            due.is("issued of " + month, x.issued(0, month), 0);
            due.is("reverse of " + month, x.reverse(0, month), 0);
        }
    }

    private static void aMonthIsADayOver30(Due due) {
        due.of("Terms", "is a day over 30, down");
        FeeRules x = Told.cents(1);
        long[] days = {0, 29, 30, 59, 60, 3569, 3570, 3599};
        for (int i = 0; i < days.length; i++) {
            x.fact(0, 0, days[i], 1L << i, 0);
        }
        due.is("days 0 and 29", x.bill(0, 0, 0), 1 + 2);
        due.is("days 30 and 59", x.bill(0, 1, 0), 4 + 8);
        due.is("day 60", x.bill(0, 2, 0), 16);
        due.is("day 3569", x.bill(0, 118, 0), 32);
        due.is("days 3570 and 3599", x.bill(0, 119, 0), 64 + 128);
        due.is("no such day", x.bill(0, 3, 0), 0);
    }

    private static void factsFromZeroOn(Due due) {
        due.of("Terms", "FACTS are numbered from 0 on");
        FeeRules x = Told.houses(1, 1);
        due.is("the first one", x.fact(0, 0, 0, 1, 0), 0);
        due.is("a refused one", x.fact(0, 6, 0, 1, 0), -1);
        due.is("of another house", x.fact(1, 0, 0, 1, 0), 1);
        due.is("the same again", x.fact(1, 0, 0, 1, 0), 2);
    }

    private static void twentyFourFactsAtMost(Due due) {
        due.of("Terms", "24 at most");
        FeeRules x = Told.cents(1, 1);
        for (int i = 0; i < 24; i++) {
            due.is("fact " + i, x.fact(i % 2, 0, 0, 1, 0), i);
        }
        due.is("a fact too much", x.fact(0, 0, 0, 1, 0), -1);
        due.is("twelve of house 0", x.bill(0, 0, 0), 12);
        due.is("twelve of house 1", x.bill(1, 0, 0), 12);
    }

    private static void factsOfAHouse(Due due) {
        due.of("Terms", "of a house, of a kind");
        FeeRules x = new FeeRules();
        due.is("no house is there", x.fact(0, 0, 0, 1, 0), -1);
        x.house(1);
        due.is("house 1 is not there", x.fact(1, 0, 0, 1, 0), -1);
        for (int no : Told.NO_INTS) {
            due.is("house " + no, x.fact(no, 0, 0, 1, 0), -1);
        }
        x.house(1);
        due.is("house 1", x.fact(1, 0, 0, 1, 0), 0);
        due.is("it is not of house 0", x.walk(0, 0, 0), 0);
        due.is("it is of house 1", x.walk(1, 0, 0), 1);
    }

    private static void factsOfAKind(Due due) {
        due.of("Terms", "of a kind 0 .. 5");
        FeeRules x = Told.houses(1);
        due.is("kind 6", x.fact(0, 6, 0, 1, 0), -1);
        for (int no : Told.NO_INTS) {
            due.is("kind " + no, x.fact(0, no, 0, 1, 0), -1);
        }
        due.is("kind 0", x.fact(0, 0, 0, 1, 0), 0);
        due.is("kind 5", x.fact(0, 5, 0, 1, 0), 1);
        x.walk(0, 0, 0);
        due.is("their kinds", Told.printed(x), "0 1 ?\n5 1 ?\n");
    }

    private static void factsOnADay(Due due) {
        due.of("Terms", "on a day, of a measure");
        FeeRules x = Told.houses(1);
        Told.read(x, Told.CENT, 7, 0);
        x.fact(0, 0, 6, 1, 0);
        x.fact(0, 0, 7, 1, 0);
        x.walk(0, 0, 0);
        due.is("only day 7 has an edition", Told.held(x), "0 -1 -1 1; 1 1 0 0; ");
    }

    private static void factsOfAMeasure(Due due) {
        due.of("Terms", "of a measure 0 .. 1000000");
        FeeRules x = Told.cents(1);
        due.is("measure -1", x.fact(0, 0, 0, -1, 0), -1);
        due.is("measure 1000001", x.fact(0, 0, 0, 1000001, 0), -1);
        due.is("measure 2^32", x.fact(0, 0, 0, 1L << 32, 0), -1);
        due.is("measure MIN", x.fact(0, 0, 0, Long.MIN_VALUE, 0), -1);
        due.is("measure MAX", x.fact(0, 0, 0, Long.MAX_VALUE, 0), -1);
        due.is("measure 0", x.fact(0, 0, 0, 0, 0), 0);
        due.is("measure 1000000", x.fact(0, 0, 0, 1000000, 0), 1);
        x.walk(0, 0, 0);
        due.is("their measures", Told.printed(x), "0 0 0\n0 1000000 1000000\n");
    }

    private static void factsKnownFromADayOn(Due due) {
        due.of("Terms", "KNOWN from a day on.");
        FeeRules x = Told.cents(1);
        x.fact(0, 0, 5, 1, 100);
        x.fact(0, 0, 5, 20, 3);
        x.fact(0, 0, 5, 300, 3599);
        due.is("on 2", x.bill(0, 0, 2), 0);
        due.is("on 3, before its day", x.bill(0, 0, 3), 20);
        due.is("on 99", x.bill(0, 0, 99), 20);
        due.is("on 100", x.bill(0, 0, 100), 21);
        due.is("on 101", x.bill(0, 0, 101), 21);
        due.is("on 3598", x.bill(0, 0, 3598), 21);
        due.is("on 3599", x.bill(0, 0, 3599), 321);
    }
}
