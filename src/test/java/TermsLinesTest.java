/** Terms: lines, reliefs of them, their editions, what they lack; the bill of them. */
public final class TermsLinesTest {
    public static void main(String[] args) {
        Due due = new Due("TermsLinesTest");
        aLineForEachFact(due);
        byNumbers(due);
        reliefsAsTheyAreNow(due);
        capsAsTheyAreNow(due);
        weightsAsTheyAreNow(due);
        relieved(due);
        relievedByNoEdition(due);
        editionsThatAreKnown(due);
        editionsFromNoLaterADay(due);
        editionOfTheLatestDay(due);
        editionOfTheGreaterNumber(due);
        lineIsTheFee(due);
        lackingAnEdition(due);
        lackingARule(due);
        lackingAFee(due);
        lackingNothing(due);
        sumOfTheLines(due);
        atMostTheCap(due);
        noneWithAnOpenLine(due);
        due.end();
    }

    private static void aLineForEachFact(Due due) {
        due.of("Terms", "THE LINES of a house and a month, as asked ON a day: one for each fact of them that is known"
            + " on it");
        FeeRules x = Told.cents(1, 1);
        x.fact(0, 0, 30, 1, 50);
        x.fact(1, 0, 30, 2, 50);
        x.fact(0, 0, 29, 4, 50);
        x.fact(0, 0, 60, 8, 50);
        x.fact(0, 0, 59, 16, 51);
        x.fact(0, 0, 30, 1, 50);
        due.is("none is known", x.walk(0, 1, 49), 0);
        due.is("all that are known", x.walk(0, 1, 50), 2);
        due.is("these", Told.held(x), "0 1 0 0; 5 1 0 0; ");
        due.is("on the next day", x.walk(0, 1, 51), 3);
        due.is("these", Told.held(x), "0 1 0 0; 4 16 0 0; 5 1 0 0; ");
        due.is("the other house", x.walk(1, 1, 51), 1);
        due.is("its bill", x.bill(1, 1, 51), 2);
        due.is("the month before", x.bill(0, 0, 51), 4);
        due.is("the month behind", x.bill(0, 2, 51), 8);
    }

    private static void byNumbers(Due due) {
        due.of("Terms", "by numbers (");
        FeeRules x = Told.cents(1);
        x.fact(0, 0, 29, 9, 20);
        x.fact(0, 0, 0, 8, 10);
        x.fact(0, 0, 15, 7, 0);
        x.walk(0, 0, 20);
        due.is("not by days, by measures, by when they were known", Told.held(x), "0 9 0 0; 1 8 0 0; 2 7 0 0; ");
    }

    private static void reliefsAsTheyAreNow(Due due) {
        due.of("Terms", "reliefs, caps, weights count as they are now, also ON an earlier day");
        FeeRules x = Told.cents(1);
        x.fact(0, 0, 5, 7, 0);
        x.issue(0, 0, 3000);
        due.is("before", x.bill(0, 0, 0), 7);
        x.relief(0, 0, 5, 5);
        due.is("behind, on an earlier day than the relief's", x.bill(0, 0, 0), 0);
        due.is("on a later day", x.bill(0, 0, 3599), 0);
    }

    private static void capsAsTheyAreNow(Due due) {
        due.of("Terms", "reliefs, caps, weights count as they are now, also ON an earlier day");
        FeeRules x = Told.cents(1);
        x.fact(0, 0, 5, 7, 0);
        due.is("before", x.bill(0, 0, 3599), 7);
        x.cap(0, 3);
        due.is("behind, on an earlier day", x.bill(0, 0, 0), 3);
        x.cap(0, 5);
        due.is("again", x.bill(0, 0, 0), 5);
    }

    private static void weightsAsTheyAreNow(Due due) {
        due.of("Terms", "reliefs, caps, weights count as they are now, also ON an earlier day");
        FeeRules x = Told.cents(2);
        x.fact(0, 0, 5, 8, 0);
        due.is("before", x.flat(0, 0, 3599, 0), 4);
        x.weight(0, 0, 3);
        due.is("behind, on an earlier day", x.flat(0, 0, 0, 0), 6);
    }

    private static void relieved(Due due) {
        due.of("Terms", "A line is RELIEVED when its day is in a relief of the house and the kind");
        FeeRules x = Told.houses(1, 1);
        Told.read(x, "kind 0 per 1 price 1 kind 1 per 1 price 1", 0, 0);
        long[] days = {9, 10, 11, 12, 13};
        for (long day : days) {
            x.fact(0, 0, day, day, 0);
        }
        x.fact(0, 1, 11, 50, 0);
        x.fact(1, 0, 11, 60, 0);
        x.relief(0, 0, 10, 12);
        x.walk(0, 0, 0);
        due.is("the days of the relief, not of the other kind", Told.held(x),
            "0 9 0 0; 1 0 -1 0; 2 0 -1 0; 3 0 -1 0; 4 13 0 0; 5 50 0 0; ");
        due.is("not of the other house", x.bill(1, 0, 0), 60);
        x.relief(1, 1, 11, 11);
        due.is("not of the other house and another kind", x.bill(1, 0, 0), 60);
        x.relief(0, 0, 13, 13);
        due.is("a second relief", x.bill(0, 0, 0), 59);
    }

    private static void relievedByNoEdition(Due due) {
        due.of("Terms", "it is 0 cents then, by no edition.");
        FeeRules x = Told.houses(1);
        Told.read(x, "kind 0 per 1 price 1 kind 1 per 0 price 1", 10, 0);
        x.fact(0, 0, 10, 5, 0);
        x.fact(0, 1, 10, 6, 0);
        x.fact(0, 2, 10, 7, 0);
        x.fact(0, 0, 9, 8, 0);
        for (int kind = 0; kind < 3; kind++) {
            x.relief(0, kind, 0, 29);
        }
        due.is("walk", x.walk(0, 0, 0), 4);
        due.is("with a fee, one that fails, no rule, no edition", Told.held(x),
            "0 0 -1 0; 1 0 -1 0; 2 0 -1 0; 3 0 -1 0; ");
        due.is("as printed", Told.printed(x), "0 5 0\n1 6 0\n2 7 0\n0 8 0\n");
        due.is("none is open", x.open(0), -1);
        due.is("the bill", x.bill(0, 0, 0), 0);
    }

    private static void editionsThatAreKnown(Due due) {
        due.of("Terms", "Else, of the editions that are known on the asking day");
        FeeRules x = Told.houses(1);
        Told.read(x, "kind 0 per 1 price 1", 0, 10);
        Told.read(x, "kind 0 per 1 price 2", 0, 20);
        Told.read(x, "kind 0 per 1 price 3", 3, 3599);
        x.fact(0, 0, 5, 1, 0);
        due.is("on 9", x.bill(0, 0, 9), Due.NO_AMOUNT);
        due.is("on 10", x.bill(0, 0, 10), 1);
        due.is("on 19", x.bill(0, 0, 19), 1);
        due.is("on 20", x.bill(0, 0, 20), 2);
        due.is("on 3598", x.bill(0, 0, 3598), 2);
        due.is("on 3599", x.bill(0, 0, 3599), 3);
    }

    private static void editionsFromNoLaterADay(Due due) {
        due.of("Terms", "and from no later a day than the fact's");
        FeeRules x = Told.houses(1);
        Told.read(x, "kind 0 per 1 price 1", 10, 0);
        Told.read(x, "kind 0 per 1 price 2", 20, 0);
        long[] days = {9, 10, 19, 20, 21};
        for (long day : days) {
            x.fact(0, 0, day, 1, 0);
        }
        x.walk(0, 0, 3599);
        due.is("days 9, 10, 19, 20, 21", Told.held(x), "0 -1 -1 1; 1 1 0 0; 2 1 0 0; 3 2 1 0; 4 2 1 0; ");
    }

    private static void editionOfTheLatestDay(Due due) {
        due.of("Terms", "the one of the latest day");
        FeeRules x = Told.houses(1);
        Told.read(x, "kind 0 per 1 price 1", 10, 0);
        Told.read(x, "kind 0 per 1 price 2", 12, 3);
        Told.read(x, "kind 0 per 1 price 3", 11, 7);
        Told.read(x, "kind 0 per 1 price 4", 0, 9);
        x.fact(0, 0, 20, 1, 0);
        x.fact(0, 0, 11, 1, 0);
        x.walk(0, 0, 9);
        due.is("not the one that was told or known last", Told.held(x), "0 2 1 0; 1 3 2 0; ");
        x.walk(0, 0, 2);
        due.is("before the latest one is known", Told.held(x), "0 1 0 0; 1 1 0 0; ");
    }

    private static void editionOfTheGreaterNumber(Due due) {
        due.of("Terms", "(of the same the greater number) is the line's");
        FeeRules x = Told.houses(1);
        Told.read(x, "kind 0 per 1 price 1", 10, 5);
        Told.read(x, "kind 0 per 1 price 2", 10, 8);
        Told.read(x, "kind 0 per 1 price 3", 10, 2);
        x.fact(0, 0, 10, 1, 0);
        due.is("the third one alone is known", x.bill(0, 0, 2), 3);
        due.is("the first one is known too", x.bill(0, 0, 5), 3);
        due.is("all are known", x.bill(0, 0, 8), 3);
        Told.read(x, "kind 0 per 1 price 4", 10, 9);
        due.is("a fourth one, unknown", x.bill(0, 0, 8), 3);
        due.is("a fourth one, known", x.bill(0, 0, 9), 4);
    }

    private static void lineIsTheFee(Due due) {
        due.of("Terms", "with its rule of the kind the line is the fee.");
        FeeRules x = Told.houses(1);
        Told.read(x, "kind 0 per 1 price 1 kind 5 per 1 price 10", 0, 0);
        Told.read(x, "kind 0 per 1 price 100 kind 5 per 1 price 1000", 7, 0);
        x.fact(0, 0, 6, 2, 0);
        x.fact(0, 5, 6, 2, 0);
        x.fact(0, 0, 7, 2, 0);
        x.fact(0, 5, 7, 2, 0);
        x.walk(0, 0, 0);
        due.is("by edition and kind", Told.held(x), "0 2 0 0; 1 20 0 0; 2 200 1 0; 3 2000 1 0; ");
    }

    private static void lackingAnEdition(Due due) {
        due.of("Terms", "It is OPEN, lacking 1, when there is no such edition");
        FeeRules x = Told.houses(1);
        x.fact(0, 0, 5, 1, 0);
        x.walk(0, 0, 0);
        due.is("none at all", Told.held(x), "0 -1 -1 1; ");
        due.is("it is open", x.open(0), 0);
        Told.read(x, Told.CENT, 0, 1);
        x.walk(0, 0, 0);
        due.is("none that is known", Told.held(x), "0 -1 -1 1; ");
        Told.read(x, Told.CENT, 6, 0);
        x.walk(0, 0, 0);
        due.is("none from no later a day", Told.held(x), "0 -1 -1 1; ");
        x.walk(0, 0, 1);
        due.is("one", Told.held(x), "0 1 0 0; ");
        due.is("it is not open", x.open(0), -1);
    }

    private static void lackingARule(Due due) {
        due.of("Terms", "or it has no rule of the kind; lacking 2");
        FeeRules x = Told.houses(1);
        Told.read(x, "kind 0 per 1 price 1 kind 1 per 0 price 1", 0, 0);
        x.read(6, 0);
        x.fact(0, 1, 6, 1, 0);
        x.fact(0, 2, 5, 1, 0);
        x.fact(0, 0, 6, 1, 0);
        x.walk(0, 0, 0);
        due.is("the edition before can't help", Told.held(x), "0 -1 1 1; 1 -1 0 1; 2 -1 1 1; ");
        due.is("the third open one", x.open(2), 2);
    }

    private static void lackingAFee(Due due) {
        due.of("Terms", "lacking 2, when the fee fails");
        FeeRules x = Told.houses(1);
        Told.read(x, "kind 0 per 1 price 1 kind 1 per 0 price 0 cap 0", 0, 0);
        x.fact(0, 1, 6, 1, 0);
        x.fact(0, 1, 6, 0, 0);
        x.fact(0, 0, 6, 0, 0);
        x.walk(0, 0, 0);
        due.is("U of 0", Told.held(x), "0 -1 0 2; 1 -1 0 2; 2 0 0 0; ");
        due.is("the second open one", x.open(1), 1);
        due.is("no third one", x.open(2), -1);
    }

    private static void lackingNothing(Due due) {
        due.of("Terms", "else it lacks 0.");
        FeeRules x = Told.cents(1);
        x.fact(0, 0, 0, 0, 0);
        x.fact(0, 0, 0, 1000000, 0);
        x.fact(0, 1, 0, 1, 0);
        x.relief(0, 1, 0, 0);
        x.walk(0, 0, 0);
        due.is("a fee of 0, a fee, a relief", Told.held(x), "0 0 0 0; 1 1000000 0 0; 2 0 -1 0; ");
        due.is("none is open", x.open(0), -1);
    }

    private static void sumOfTheLines(Due due) {
        due.of("Terms", "THE BILL of these is the sum of its lines");
        FeeRules x = Told.houses(1);
        Told.read(x, "kind 0 per 1 price 1 kind 5 per 1 price 999999", 0, 0);
        due.is("of no lines", x.bill(0, 0, 0), 0);
        x.fact(0, 0, 0, 0, 0);
        due.is("of one of 0", x.bill(0, 0, 0), 0);
        x.fact(0, 0, 0, 3, 0);
        x.fact(0, 0, 0, 3, 0);
        due.is("of the same twice", x.bill(0, 0, 0), 6);
        for (int i = 3; i < 24; i++) {
            x.fact(0, 5, 29, 1000000, 0);
        }
        due.is("of the highest ones", x.bill(0, 0, 0), 21 * 999999000000L + 6);
    }

    private static void atMostTheCap(Due due) {
        due.of("Terms", "at most the month's CAP, if there is one");
        FeeRules x = Told.cents(1, 1);
        x.fact(0, 0, 0, 60, 0);
        x.fact(0, 0, 0, 40, 0);
        x.fact(1, 0, 0, 200, 0);
        x.fact(0, 0, 30, 300, 0);
        due.is("there is none", x.bill(0, 0, 0), 100);
        x.cap(0, 101);
        due.is("a cent above it", x.bill(0, 0, 0), 100);
        x.cap(0, 100);
        due.is("as high", x.bill(0, 0, 0), 100);
        x.cap(0, 99);
        due.is("a cent below it", x.bill(0, 0, 0), 99);
        due.is("of the other house", x.bill(1, 0, 0), 99);
        due.is("of the other month", x.bill(0, 1, 0), 300);
        x.walk(0, 0, 0);
        due.is("the lines are not capped", Told.held(x), "0 60 0 0; 1 40 0 0; ");
        x.cap(0, 0);
        due.is("of 0", x.bill(0, 0, 0), 0);
    }

    private static void noneWithAnOpenLine(Due due) {
        due.of("Terms", "none, when a line is open.");
        for (int at = 0; at < 3; at++) {
            FeeRules x = Told.houses(1);
            Told.read(x, "kind 0 per 1 price 1 kind 2 per 0 price 1", 0, 0);
            x.cap(0, 0);
            for (int i = 0; i < 3; i++) {
                x.fact(0, i == at ? 1 : 0, 0, 5, 0);
            }
            due.is("bill with fact " + at + " lacking a rule", x.bill(0, 0, 0), Due.NO_AMOUNT);
            x.relief(0, 1, 0, 0);
            due.is("relieved", x.bill(0, 0, 0), 0);
            x.fact(0, 2, 0, 5, 1);
            due.is("one that is unknown", x.bill(0, 0, 0), 0);
            due.is("one lacking a fee", x.bill(0, 0, 1), Due.NO_AMOUNT);
        }
    }
}
