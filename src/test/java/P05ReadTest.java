/** Promise 5: read. */
public final class P05ReadTest {
    public static void main(String[] args) {
        Due due = new Due("P05ReadTest");
        goodTexts(due);
        wordsThatCannotStand(due);
        numbers(due);
        wordsThatMiss(due);
        secondRules(due);
        days(due);
        full(due);
        refusedTextsChangeNothing(due);
        longTexts(due);
        behindOtherEditions(due);
        due.end();
    }

    private static void told(Due due, String text, int want) {
        FeeRules x = new FeeRules();
        int got = Told.read(x, text, 0, 0);
        due.is("read of [" + text + "]", got, want);
        due.is("edition of [" + text + "]", x.edition(0, 2), want >= 0 ? want : -1);
        due.is("the text is empty behind [" + text + "]", x.read(0, 0), 0);
    }

    private static void goodTexts(Due due) {
        told(due, "", 0);
        told(due, " ", 0);
        told(due, "\n \n", 0);
        told(due, "kind 0 per 1 price 1", 1);
        told(due, "\n  kind\n\n0 per   1 price 1 \n", 1);
        told(due, "kind 0 per 0 price 0", 1);
        told(due, "kind 5 per 999999 price 999999", 1);
        told(due, "kind 0 per 1 price 1 cap 0", 1);
        told(due, "kind 0 per 1 price 1 cap 999999", 1);
        told(due, "kind 0 per 1 price 1 step 1 0", 1);
        told(due, "kind 0 per 1 price 1 step 1 0 step 2 0 step 999999 5 cap 3", 1);
        told(due, "kind 1 per 1 price 1 kind 0 per 1 price 1", 2);
        told(due, "kind 1 per 1 price 1 cap 2 kind 0 per 1 price 1 step 9 9 kind 2 per 1 price 1", 3);
        told(due, "kind 5 per 1 price 1 kind 4 per 1 price 1 kind 3 per 1 price 1"
            + " kind 2 per 1 price 1 kind 1 per 1 price 1 kind 0 per 1 price 1", 6);
    }

    private static void wordsThatCannotStand(Due due) {
        told(due, "kinds", -1);
        told(due, "kin", -1);
        told(due, "Kind", -1);
        told(due, "per", -1);
        told(due, "0", -1);
        told(due, "kind kind", -2);
        told(due, "kind 6 per 1 price 1", -2);
        told(due, "kind 9", -2);
        told(due, "kind 10", -2);
        told(due, "kind 0 0", -3);
        told(due, "kind 0 price", -3);
        told(due, "kind 0 pre 1", -3);
        told(due, "kind 0 per x", -4);
        told(due, "kind 0 per price", -4);
        told(due, "kind 0 per 1 cap", -5);
        told(due, "kind 0 per 1 step", -5);
        told(due, "kind 0 per 1 1", -5);
        told(due, "kind 0 per 1 price step", -6);
        told(due, "kind 0 per 1 price 1 1", -7);
        told(due, "kind 0 per 1 price 1 per", -7);
        told(due, "kind 0 per 1 price 1 caps", -7);
        told(due, "kind 0 per 1 price 1 step step", -8);
        told(due, "kind 0 per 1 price 1 step 0 1", -8);
        told(due, "kind 0 per 1 price 1 step 1 step", -9);
        told(due, "kind 0 per 1 price 1 step 1 1 1", -10);
        told(due, "kind 0 per 1 price 1 step 1 1 step 1 1", -11);
        told(due, "kind 0 per 1 price 1 step 5 1 step 4 1", -11);
        told(due, "kind 0 per 1 price 1 cap cap", -8);
        told(due, "kind 0 per 1 price 1 cap 1 cap 1", -9);
        told(due, "kind 0 per 1 price 1 cap 1 step 1 1", -9);
        told(due, "kind 0 per 1 price 1 cap 1 1", -9);
        told(due, "kind\t0 per 1 price 1", -1);
        told(due, "kind 0\r\nper 1 price 1", -2);
        told(due, "kind 0 per 1 price 1 \r", -7);
    }

    private static void numbers(Due due) {
        told(due, "kind 000005 per 000001 price 000001", 1);
        told(due, "kind 0000005 per 1 price 1", -2);
        told(due, "kind 0 per 1000000 price 1", -4);
        told(due, "kind 0 per 0000001 price 1", -4);
        told(due, "kind 0 per 1 price 1234567", -6);
        told(due, "kind 0 per -1 price 1", -4);
        told(due, "kind 0 per +1 price 1", -4);
        told(due, "kind 0 per 1x price 1", -4);
        told(due, "kind 0 per 1/ price 1", -4);
        told(due, "kind 0 per 1: price 1", -4);
        told(due, "kind 0 per 1 price 1 step 1000000 1", -8);
        told(due, "kind 0 per 1 price 1 step 1 1000000", -9);
        told(due, "kind 0 per 1 price 1 cap 1000000", -8);
        told(due, "kind 0 per 99999999999999999999 price 1", -4);
    }

    private static void wordsThatMiss(Due due) {
        told(due, "kind", -2);
        told(due, "kind 0", -3);
        told(due, "kind 0 ", -3);
        told(due, "kind 0 per", -4);
        told(due, "kind 0 per 1", -5);
        told(due, "kind 0 per 1 price", -6);
        told(due, "kind 0 per 1 price 1 step", -8);
        told(due, "kind 0 per 1 price 1 step 1\n", -9);
        told(due, "kind 0 per 1 price 1 step 1 1 step", -11);
        told(due, "kind 0 per 1 price 1 cap", -8);
        told(due, "kind 0 per 1 price 1 kind", -8);
        told(due, "kind 0 per 1 price 1 kind 1", -9);
    }

    private static void secondRules(Due due) {
        told(due, "kind 0 per 1 price 1 kind 0 per 1 price 1", -8);
        told(due, "kind 0 per 1 price 1 kind 0", -8);
        told(due, "kind 0 per 1 price 1 kind 00 x", -8);
        told(due, "kind 3 per 1 price 1 kind 0 per 1 price 1 cap 1 kind 3 per", -16);
        told(due, "kind 5 per 1 price 1 kind 4 per 1 price 1 kind 3 per 1 price 1"
            + " kind 2 per 1 price 1 kind 1 per 1 price 1 kind 0 per 1 price 1 kind", -38);
        told(due, "kind 5 per 1 price 1 kind 4 per 1 price 1 kind 3 per 1 price 1"
            + " kind 2 per 1 price 1 kind 1 per 1 price 1 kind 0 per 1 price 1 kind 2", -38);
    }

    private static void days(Due due) {
        String rule = "kind 0 per 1 price 1";
        long[][] wrong = {{-1, 0}, {3600, 0}, {0, -1}, {0, 3600}, {1L << 32, 0}, {0, 1L << 32},
            {Long.MIN_VALUE, 0}, {0, Long.MAX_VALUE}};
        FeeRules x = new FeeRules();
        for (long[] pair : wrong) {
            due.is("read(" + pair[0] + ", " + pair[1] + ")", Told.read(x, rule, pair[0], pair[1]), -1000);
            due.is("no edition", x.edition(0, 0), -1);
            due.is("a wrong text on such days", Told.read(x, "x", pair[0], pair[1]), -1000);
        }
        due.is("the text is empty", x.read(0, 3599), 0);
        due.is("known before it acts", Told.read(x, rule, 3599, 0), 1);
        due.is("edition(1, 0)", x.edition(1, 0), 3599);
        due.is("edition(1, 1)", x.edition(1, 1), 0);
    }

    private static void full(Due due) {
        FeeRules x = new FeeRules();
        for (int i = 0; i < 6; i++) {
            due.is("edition " + i, Told.read(x, "kind 0 per 1 price 1", i, i), 1);
        }
        due.is("a seventh one", Told.read(x, "kind 0 per 1 price 1", 0, 0), -1000);
        due.is("a seventh one, wrong", Told.read(x, "kind 9", 0, 0), -1000);
        due.is("a seventh one, empty", x.read(0, 0), -1000);
        due.is("the sixth one", x.edition(5, 0), 5);
        due.is("the seventh one", x.edition(6, 0), -1);
    }

    private static void refusedTextsChangeNothing(Due due) {
        FeeRules x = Told.houses(1);
        x.fact(0, 0, 0, 10, 0);
        x.fact(0, 1, 0, 10, 0);
        Told.read(x, "kind 0 per 1 price 3 step 5 4 cap 34 kind 1 per 1 price 1", 0, 0);
        due.is("bill before", x.bill(0, 0, 0), 44);
        due.is("refused", Told.read(x, "kind 0 per 1 price 9 step 1 9 kind 1 per 1 price 9 x", 0, 0), -16);
        due.is("bill behind it", x.bill(0, 0, 0), 44);
        due.is("no edition of it", x.edition(1, 2), -1);
        due.is("an empty edition next", x.read(0, 0), 0);
        due.is("nothing of the refused one is in it", x.bill(0, 0, 0), Due.NO_AMOUNT);
        due.is("refused again", Told.read(x, "kind 0 per 1 price 9 cap 1 kind 1 per 1 price 9 step 1 1 x", 0, 0), -18);
        due.is("a rule next", Told.read(x, "kind 1 per 1 price 2 kind 0 per 1 price 2", 0, 0), 2);
        due.is("nothing of it is in that", x.bill(0, 0, 0), 40);
    }

    // The most steps that a text can tell, in each edition, and the most words.
    private static void longTexts(Due due) {
        StringBuilder steps = new StringBuilder("kind 0 per 1 price 0");
        int told = 0;
        while (steps.length() + 9 + (told > 8 ? 1 : 0) <= 600) {
            told++;
            steps.append(" step ").append(told).append(" ").append(told % 10);
        }
        long sum = 0;
        for (int unit = 0; unit < 1000; unit++) {
            sum += (unit < told ? unit : told) % 10;
        }
        FeeRules x = Told.houses(1);
        for (int edition = 0; edition < 6; edition++) {
            due.is("many steps, refused", Told.read(x, steps.substring(0, steps.length() - 2), 0, 0), -6 - 3 * told);
            due.is("many steps", Told.read(x, steps.toString(), 30 * edition, 0), 1);
            x.fact(0, 0, 30 * edition, 1000, 0);
        }
        for (int edition = 0; edition < 6; edition++) {
            due.is("the fee of many steps", x.bill(0, edition, 0), sum);
        }
        StringBuilder words = new StringBuilder("kind 0 per 1 price 1 step 1 1");
        while (words.length() + 2 <= 600) {
            words.append(" 2");
        }
        due.is("many words", Told.read(new FeeRules(), words.toString(), 0, 0), -10);
    }

    // What editions before have, or lack, is nothing to the next one.
    private static void behindOtherEditions(Due due) {
        FeeRules x = new FeeRules();
        for (int edition = 0; edition < 5; edition++) {
            due.is("an edition", Told.read(x, "kind " + edition + " per 1 price 1", 0, 0), 1);
            due.is("kind x", Told.read(x, "kind x", 0, 0), -2);
            due.is("kind 6", Told.read(x, "kind 6", 0, 0), -2);
            due.is("kind 999999", Told.read(x, "kind 999999", 0, 0), -2);
        }
        due.is("a rule of each kind", Told.read(x, "kind 5 per 1 price 1 kind 4 per 1 price 1 kind 3 per 1 price 1"
            + " kind 2 per 1 price 1 kind 1 per 1 price 1 kind 0 per 1 price 1", 0, 0), 6);
    }
}
