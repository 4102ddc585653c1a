/** Promise 10: bill, and the fees, lines and editions that it is of. */
public final class P10BillTest {
    public static void main(String[] args) {
        Due due = new Due("P10BillTest");
        noneSuch(due);
        fees(due);
        monthsAndDays(due);
        editionsOfALine(due);
        openLines(due);
        rulesOfOneEdition(due);
        due.end();
    }

    // Each rule has its own steps and cap.
    private static void rulesOfOneEdition(Due due) {
        FeeRules x = Told.houses(1);
        Told.read(x, "kind 5 per 1 price 1 step 2 10 step 4 100 cap 200", 0, 0);
        Told.read(x, "kind 3 per 1 price 1 step 2 10 step 4 100 kind 0 per 2 price 3 step 1 5"
            + " kind 5 per 1 price 7 cap 30 kind 1 per 1 price 0 step 3 2 step 5 4 step 6 8", 30, 0);
        x.fact(0, 3, 30, 6, 0);
        x.fact(0, 0, 60, 6, 0);
        x.fact(0, 5, 90, 6, 0);
        x.fact(0, 1, 120, 8, 0);
        x.fact(0, 5, 29, 6, 0);
        due.is("kind 3", x.bill(0, 1, 0), 222);
        due.is("kind 0", x.bill(0, 2, 0), 14);
        due.is("kind 5", x.bill(0, 3, 0), 30);
        due.is("kind 1", x.bill(0, 4, 0), 24);
        due.is("kind 5 of the edition before", x.bill(0, 0, 0), 200);
    }

    private static void noneSuch(Due due) {
        FeeRules x = Told.houses(1);
        due.is("no lines", x.bill(0, 0, 0), 0);
        due.is("house 1", x.bill(1, 0, 0), Due.NO_AMOUNT);
        due.is("house -1", x.bill(-1, 0, 0), Due.NO_AMOUNT);
        due.is("month 120", x.bill(0, 120, 0), Due.NO_AMOUNT);
        due.is("month -1", x.bill(0, -1, 0), Due.NO_AMOUNT);
        due.is("on 3600", x.bill(0, 0, 3600), Due.NO_AMOUNT);
        due.is("on -1", x.bill(0, 0, -1), Due.NO_AMOUNT);
        due.is("on 2^32", x.bill(0, 0, 1L << 32), Due.NO_AMOUNT);
        due.is("the last month and day", x.bill(0, 119, 3599), 0);
    }

    private static void fees(Due due) {
        due.is("no units", Told.fee("1 price 5", 0), 0);
        due.is("one unit", Told.fee("1 price 5", 1), 5);
        due.is("down", Told.fee("10 price 33", 105), 346);
        due.is("below one cent", Told.fee("1000 price 1", 999), 0);
        due.is("together over U, then down", Told.fee("2 price 1 step 1 1 step 2 1", 3), 1);
        due.is("below the step", Told.fee("1 price 3 step 10 100", 9), 27);
        due.is("up to the step", Told.fee("1 price 3 step 10 100", 10), 30);
        due.is("one unit from the step on", Told.fee("1 price 3 step 10 100", 11), 130);
        due.is("a step at 1", Told.fee("1 price 3 step 1 100", 2), 103);
        due.is("two steps", Told.fee("1 price 3 step 10 100 step 20 1000", 25), 30 + 1000 + 5000);
        due.is("up to the second step", Told.fee("1 price 3 step 10 100 step 20 1000", 20), 1030);
        due.is("steps to a lesser price", Told.fee("10 price 33 step 100 7", 105), 333);
        due.is("steps to no price", Told.fee("1 price 7 step 2 0 step 4 1", 6), 16);
        due.is("above the cap", Told.fee("1 price 7 cap 20", 3), 20);
        due.is("as high as the cap", Told.fee("1 price 7 cap 21", 3), 21);
        due.is("below the cap", Told.fee("1 price 7 cap 22", 3), 21);
        due.is("a cap behind the division", Told.fee("10 price 7 cap 20", 29), 20);
        due.is("a cap behind the division, below it", Told.fee("10 price 7 cap 20", 28), 19);
        due.is("a cap of 0", Told.fee("1 price 7 cap 0", 3), 0);
        due.is("a cap with steps", Told.fee("1 price 7 step 1 8 cap 16", 3), 16);
        due.is("the highest fee", Told.fee("1 price 999999", 1000000), 999999000000L);
        due.is("the highest step", Told.fee("1 price 0 step 999999 999999", 1000000), 999999);
        due.is("the highest U", Told.fee("999999 price 999999", 1000000), 1000000);
        due.is("U of 0", Told.fee("0 price 1", 1), Due.NO_AMOUNT);
        due.is("U of 0 and no units", Told.fee("0 price 0 cap 0", 0), Due.NO_AMOUNT);
    }

    private static void monthsAndDays(Due due) {
        FeeRules x = Told.houses(1, 1);
        Told.read(x, "kind 0 per 1 price 1 kind 5 per 1 price 1", 0, 0);
        x.fact(0, 0, 0, 1, 0);
        x.fact(0, 5, 29, 10, 0);
        x.fact(0, 0, 30, 100, 0);
        x.fact(0, 0, 59, 1000, 50);
        x.fact(1, 0, 0, 10000, 0);
        x.fact(0, 0, 3599, 100000, 3599);
        due.is("month 0", x.bill(0, 0, 0), 11);
        due.is("month 1 before it is known", x.bill(0, 1, 49), 100);
        due.is("month 1 as it is known", x.bill(0, 1, 50), 1100);
        due.is("month 2", x.bill(0, 2, 3599), 0);
        due.is("house 1", x.bill(1, 0, 0), 10000);
        due.is("month 119 before it is known", x.bill(0, 119, 3598), 0);
        due.is("month 119", x.bill(0, 119, 3599), 100000);
    }

    private static void editionsOfALine(Due due) {
        FeeRules x = Told.houses(1);
        Told.read(x, "kind 0 per 1 price 1", 10, 100);
        Told.read(x, "kind 0 per 1 price 2", 5, 90);
        Told.read(x, "kind 0 per 1 price 3", 10, 110);
        Told.read(x, "kind 0 per 1 price 4", 10, 120);
        Told.read(x, "kind 0 per 1 price 5", 11, 130);
        Told.read(x, "kind 0 per 1 price 6", 4, 140);
        x.fact(0, 0, 10, 1, 0);
        due.is("before any is known", x.bill(0, 0, 89), Due.NO_AMOUNT);
        due.is("the one that is known", x.bill(0, 0, 90), 2);
        due.is("the one of the later day", x.bill(0, 0, 100), 1);
        due.is("of the same day the greater number", x.bill(0, 0, 110), 3);
        due.is("of the same day the greatest number", x.bill(0, 0, 120), 4);
        due.is("not one of a day behind the fact's", x.bill(0, 0, 130), 4);
        due.is("not a later one of an earlier day", x.bill(0, 0, 140), 4);
        x.fact(0, 0, 30, 1, 0);
        due.is("a fact behind them", x.bill(0, 1, 140), 5);
        x.fact(0, 0, 3, 1, 0);
        due.is("a fact before them", x.bill(0, 0, 140), Due.NO_AMOUNT);
    }

    private static void openLines(Due due) {
        FeeRules x = Told.houses(1);
        Told.read(x, "kind 0 per 1 price 1 kind 1 per 0 price 1", 0, 0);
        x.fact(0, 0, 0, 7, 0);
        x.fact(0, 1, 10, 7, 5);
        x.fact(0, 2, 20, 7, 9);
        due.is("no open line is known", x.bill(0, 0, 4), 7);
        due.is("a fee that fails", x.bill(0, 0, 5), Due.NO_AMOUNT);
        x.relief(0, 1, 10, 10);
        due.is("relieved of it", x.bill(0, 0, 5), 7);
        due.is("no rule of the kind", x.bill(0, 0, 9), Due.NO_AMOUNT);
        Told.read(x, "kind 2 per 1 price 10", 20, 9);
        due.is("with a rule of it", x.bill(0, 0, 9), 77);
        Told.read(x, "", 1, 30);
        due.is("an edition without rules, from day 1", x.bill(0, 0, 30), 77);
        Told.read(x, "", 20, 31);
        due.is("an edition without rules, from day 20", x.bill(0, 0, 31), Due.NO_AMOUNT);
        due.is("asked on an earlier day", x.bill(0, 0, 30), 77);
    }
}
