/** Terms: a call that is refused changes nothing. An object is asked beside another one that was not so called. */
public final class TermsRefusedTest {
    /** Calls that are refused in the state that made() gives. */
    private static final String[] REFUSED = {"house(0)", "house(7)", "fact of house 2", "fact of kind 6",
        "fact of day 3600", "fact of measure 1000001", "fact known from 3600", "unit(256)", "unit(-1)",
        "read of a wrong text", "read of a text that ends too soon", "read of a rule twice", "read from day 3600",
        "read known from -1", "edition(2, 0)", "cap(120, 1)", "cap(0, -1)", "cap(0, 10^12 + 1)", "relief of house 2",
        "relief of kind -1", "relief of day 3600", "relief turned round", "weight of house 2", "weight of flat 3",
        "weight 1001", "weight -1", "bill on 3600", "walk of month 120", "walk on 3600", "walk of house 2", "line(9, 0)",
        "open(9)", "write(99)", "flat 3", "issue of an open line", "issue on 3600", "issue of house 2", "issued of 120",
        "reverse of month 120", "reverse of house -1"};

    public static void main(String[] args) {
        Due due = new Due("TermsRefusedTest");
        changesNothing(due);
        changesNoText(due);
        changesNothingWhenFull(due);
        butTheText(due);
        due.end();
    }

    private static void changesNothing(Due due) {
        due.of("Terms", "A call that is refused changes nothing");
        for (int which = 0; which < REFUSED.length; which++) {
            FeeRules called = made();
            due.is(REFUSED[which], refuse(called, which), true);
            due.is("behind " + REFUSED[which], seen(called), seen(made()));
        }
    }

    private static void changesNoText(Due due) {
        due.of("Terms", "A call that is refused changes nothing");
        for (int which = 0; which < REFUSED.length; which++) {
            if (!REFUSED[which].startsWith("read")) {
                FeeRules called = made();
                Told.text(called, "kin");
                due.is(REFUSED[which], refuse(called, which), true);
                due.is("the text behind " + REFUSED[which], Told.read(called, "d 0 per 1 price 1", 0, 0), 1);
            }
        }
    }

    private static void changesNothingWhenFull(Due due) {
        due.of("Terms", "A call that is refused changes nothing");
        FeeRules called = full();
        due.is("a fifth house", called.house(6), -1);
        due.is("a 25th fact", called.fact(0, 0, 0, 9, 0), -1);
        due.is("a ninth relief", called.relief(0, 0, 0, 3599), false);
        due.is("a seventh edition", Told.read(called, "kind 0 per 1 price 9", 0, 0), -1000);
        due.is("behind them", seen(called), seen(full()));
    }

    private static void butTheText(Due due) {
        due.of("Terms", "(but the text, by read()).");
        FeeRules x = new FeeRules();
        due.is("a wrong text", Told.read(x, "x", 0, 0), -1);
        due.is("it is empty", Told.read(x, Told.CENT, 0, 0), 1);
        due.is("days not such", Told.read(x, "x", 3600, 0), -1000);
        due.is("it is empty", Told.read(x, Told.CENT, 0, 0), 1);
        Told.text(x, "kin");
        due.is("other calls that are refused", x.walk(0, 0, 0), -1);
        due.is("a byte that is refused", x.unit(256), false);
        Told.text(x, "d 0 per 1 price 1");
        due.is("leave the text", x.read(0, 0), 1);
    }

    private static FeeRules made() {
        FeeRules x = Told.houses(3, 1);
        Told.read(x, "kind 0 per 1 price 2 step 5 3 cap 900 kind 1 per 0 price 1", 2, 0);
        Told.read(x, "kind 0 per 1 price 5", 8, 4);
        x.fact(0, 0, 3, 7, 0);
        x.fact(0, 0, 9, 10, 3);
        x.fact(0, 1, 31, 1, 0);
        x.fact(1, 0, 1, 4, 0);
        x.fact(0, 0, 10, 8, 0);
        x.cap(0, 60);
        x.relief(0, 0, 10, 11);
        x.weight(0, 1, 4);
        x.issue(0, 0, 0);
        x.walk(0, 0, 5);
        return x;
    }

    private static boolean refuse(FeeRules x, int which) {
        switch (which) {
            case 0: return x.house(0) == -1;
            case 1: return x.house(7) == -1;
            case 2: return x.fact(2, 0, 0, 0, 0) == -1;
            case 3: return x.fact(0, 6, 0, 0, 0) == -1;
            case 4: return x.fact(0, 0, 3600, 0, 0) == -1;
            case 5: return x.fact(0, 0, 0, 1000001, 0) == -1;
            case 6: return x.fact(0, 0, 0, 0, 3600) == -1;
            case 7: return !x.unit(256);
            case 8: return !x.unit(-1);
            case 9: return Told.read(x, "kind 0 per 1 price 9 step 1 9 cap 9 x", 0, 0) == -12;
            case 10: return Told.read(x, "kind 0 per 1 price 9 step 1 9 kind 2 per", 0, 0) == -13;
            case 11: return Told.read(x, "kind 2 per 1 price 9 kind 2 per 1 price 9", 0, 0) == -8;
            case 12: return Told.read(x, Told.CENT, 3600, 0) == -1000;
            case 13: return Told.read(x, Told.CENT, 0, -1) == -1000;
            case 14: return x.edition(2, 0) == -1;
            case 15: return !x.cap(120, 1);
            case 16: return !x.cap(0, -1);
            case 17: return !x.cap(0, 1000000000001L);
            case 18: return !x.relief(2, 0, 0, 29);
            case 19: return !x.relief(0, -1, 0, 29);
            case 20: return !x.relief(0, 0, 0, 3600);
            case 21: return !x.relief(0, 0, 9, 3);
            default: return refuseMore(x, which);
        }
    }

    private static boolean refuseMore(FeeRules x, int which) {
        switch (which) {
            case 22: return !x.weight(2, 0, 9);
            case 23: return !x.weight(0, 3, 9);
            case 24: return !x.weight(0, 0, 1001);
            case 25: return !x.weight(0, 0, -1);
            case 26: return x.bill(0, 0, 3600) == Due.NO_AMOUNT;
            case 27: return x.walk(0, 120, 5) == -1;
            case 28: return x.walk(0, 0, 3600) == -1;
            case 29: return x.walk(2, 0, 5) == -1;
            case 30: return x.line(9, 0) == -1;
            case 31: return x.open(9) == -1;
            case 32: return x.write(99) == -1;
            case 33: return x.flat(0, 0, 0, 3) == Due.NO_AMOUNT;
            case 34: return x.issue(0, 1, 0) == Due.NO_AMOUNT;
            case 35: return x.issue(0, 0, 3600) == Due.NO_AMOUNT;
            case 36: return x.issue(2, 0, 0) == Due.NO_AMOUNT;
            case 37: return x.issued(0, 120) == Due.NO_AMOUNT;
            case 38: return x.reverse(0, 120) == Due.NO_AMOUNT;
            default: return x.reverse(-1, 0) == Due.NO_AMOUNT;
        }
    }

    private static FeeRules full() {
        FeeRules x = Told.houses(2, 2, 2, 2);
        for (int i = 0; i < 6; i++) {
            Told.read(x, "kind 0 per 1 price 1", i, i);
        }
        for (int i = 0; i < 24; i++) {
            x.fact(i % 2, 0, 5 + i, i, 0);
        }
        for (int i = 0; i < 8; i++) {
            x.relief(0, 0, i, i);
        }
        x.issue(0, 0, 3599);
        x.walk(0, 0, 3599);
        return x;
    }

    /** All that can be seen of an object; at the end by calls that change it. */
    private static String seen(FeeRules x) {
        StringBuilder all = new StringBuilder(Told.held(x) + Told.printed(x) + x.open(0) + " ");
        for (int k = 0; k < 3; k++) {
            all.append(x.edition(k, 0)).append(' ').append(x.edition(k, 1)).append(' ');
            all.append(x.edition(k, 2)).append(' ');
        }
        for (int house = 0; house < 3; house++) {
            for (int month = 0; month < 2; month++) {
                all.append(x.issued(house, month)).append(' ');
                all.append(x.bill(house, month, 5)).append(' ').append(x.bill(house, month, 0)).append(' ');
                all.append(x.flat(house, month, 5, 0)).append(' ').append(x.flat(house, month, 5, 1)).append(' ');
            }
        }
        all.append(x.fact(0, 0, 59, 30, 0)).append(' ');
        int read = Told.read(x, "kind 1 per 1 price 1 kind 0 per 1 price 1", 30, 0);
        all.append(read).append(' ').append(x.bill(0, 1, 0)).append(' ');
        for (int i = 0; i < 9 && x.relief(0, 1, 0, 0); i++) {
            all.append("a relief more ");
        }
        all.append(x.house(1)).append(' ').append(x.issue(0, 0, 5)).append(' ').append(x.reverse(0, 0));
        return all.toString();
    }
}
