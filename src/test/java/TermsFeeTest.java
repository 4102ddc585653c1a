/** Terms: the fee of a measure. */
public final class TermsFeeTest {
    public static void main(String[] args) {
        Due due = new Due("TermsFeeTest");
        belowTheFirstStep(due);
        fromAStepOn(due);
        unitsOfAMeasure(due);
        togetherOverU(due);
        cappedByC(due);
        failsWhenUIsZero(due);
        eachRuleHasItsOwn(due);
        due.end();
    }

    private static void belowTheFirstStep(Due due) {
        due.of("Terms", "THE FEE of a measure v by it: the units of v below the first B cost P each");
        due.is("no units", Told.fee("1 price 5", 0), 0);
        due.is("one unit", Told.fee("1 price 5", 1), 5);
        due.is("all of them, without a step", Told.fee("1 price 999999", 1000000), 999999000000L);
        due.is("no units, with a step", Told.fee("1 price 5 step 1 9", 0), 0);
        due.is("all of them, with a step", Told.fee("1 price 3 step 10 100", 9), 27);
        due.is("only those", Told.fee("1 price 3 step 10 0", 1000000), 30);
        due.is("one unit at no price", Told.fee("1 price 0 step 10 9", 9), 0);
    }

    private static void fromAStepOn(Due due) {
        due.of("Terms", "those from a B on, below the next one, Q each");
        String two = "1 price 3 step 10 100 step 20 1000";
        due.is("one unit of the first step", Told.fee(two, 11), 30 + 100);
        due.is("all units of the first step", Told.fee(two, 20), 30 + 1000);
        due.is("one unit of the second step", Told.fee(two, 21), 30 + 1000 + 1000);
        due.is("more of them", Told.fee(two, 25), 30 + 1000 + 5000);
        due.is("to a lesser price", Told.fee("1 price 9 step 1 5 step 2 1", 4), 9 + 5 + 1 + 1);
        due.is("to no price and up again", Told.fee("1 price 7 step 2 0 step 4 1", 6), 14 + 0 + 2);
        due.is("the last unit", Told.fee("1 price 0 step 999999 999999", 1000000), 999999);
    }

    private static void unitsOfAMeasure(Due due) {
        due.of("Terms", "unit k of v, k = 0 .. v - 1, is below B when k is");
        due.is("v is one less than B", Told.fee("1 price 1 step 10 1000", 9), 9);
        due.is("v is B", Told.fee("1 price 1 step 10 1000", 10), 10);
        due.is("v is one more than B", Told.fee("1 price 1 step 10 1000", 11), 1010);
        due.is("v is 1, B is 1", Told.fee("1 price 1 step 1 1000", 1), 1);
        due.is("v is 2, B is 1", Told.fee("1 price 1 step 1 1000", 2), 1001);
        due.is("v is the second B", Told.fee("1 price 1 step 1 10 step 2 100", 2), 11);
        due.is("v is one more than the second B", Told.fee("1 price 1 step 1 10 step 2 100", 3), 111);
    }

    private static void togetherOverU(Due due) {
        due.of("Terms", "together over U, down");
        due.is("a cent less than U", Told.fee("1000 price 1", 999), 0);
        due.is("U", Told.fee("1000 price 1", 1000), 1);
        due.is("a cent less than two U", Told.fee("1000 price 1", 1999), 1);
        due.is("down", Told.fee("10 price 33", 105), 346);
        due.is("together, not each step", Told.fee("2 price 1 step 1 1 step 2 1 step 3 1", 4), 2);
        due.is("U of 1", Told.fee("1 price 7", 3), 21);
        due.is("the highest U", Told.fee("999999 price 999999", 1000000), 1000000);
    }

    private static void cappedByC(Due due) {
        due.of("Terms", "C at most.");
        due.is("a cent below it", Told.fee("1 price 7 cap 22", 3), 21);
        due.is("as high", Told.fee("1 price 7 cap 21", 3), 21);
        due.is("a cent above it", Told.fee("1 price 7 cap 20", 3), 20);
        due.is("of 0", Told.fee("1 price 7 cap 0", 3), 0);
        due.is("behind the division, a cent above it", Told.fee("10 price 7 cap 20", 30), 20);
        due.is("behind the division, as high", Told.fee("10 price 7 cap 20", 29), 20);
        due.is("behind the division, below it", Told.fee("10 price 7 cap 20", 28), 19);
        due.is("with a step", Told.fee("1 price 7 step 1 8 cap 16", 3), 16);
        due.is("none", Told.fee("1 price 999999", 3), 2999997);
        due.is("the highest", Told.fee("1 price 1 cap 999999", 1000000), 999999);
    }

    private static void failsWhenUIsZero(Due due) {
        due.of("Terms", "It FAILS when U is 0.");
        due.is("U of 0", Told.fee("0 price 1", 1), Due.NO_AMOUNT);
        due.is("U of 000000", Told.fee("000000 price 1", 1), Due.NO_AMOUNT);
        due.is("no units", Told.fee("0 price 1", 0), Due.NO_AMOUNT);
        due.is("no price, a cap of 0", Told.fee("0 price 0 cap 0", 1), Due.NO_AMOUNT);
        due.is("with a step", Told.fee("0 price 0 step 1 1", 5), Due.NO_AMOUNT);
        due.is("U of 1", Told.fee("1 price 0", 1), 0);
    }

    private static void eachRuleHasItsOwn(Due due) {
        due.of("Terms", "with its rule of the kind the line is the fee.");
        FeeRules x = Told.houses(1);
        Told.read(x, "kind 5 per 1 price 1 step 2 10 step 4 100 cap 200", 0, 0);
        Told.read(x, "kind 3 per 1 price 1 step 2 10 step 4 100 kind 0 per 2 price 3 step 1 5"
            + " kind 5 per 1 price 7 cap 30 kind 1 per 1 price 0 step 3 2 step 5 4 step 6 8", 30, 0);
        x.fact(0, 3, 30, 6, 0);
        x.fact(0, 0, 31, 6, 0);
        x.fact(0, 5, 32, 6, 0);
        x.fact(0, 1, 33, 8, 0);
        x.fact(0, 5, 29, 6, 0);
        x.walk(0, 1, 0);
        due.is("the rules of an edition", Told.held(x), "0 222 1 0; 1 14 1 0; 2 30 1 0; 3 24 1 0; ");
        x.walk(0, 0, 0);
        due.is("the rule of the edition before", Told.held(x), "4 200 0 0; ");
    }
}
