/** Terms: editions, what tells a rule, the fee, words and numbers. */
public final class TermsRulesTest {
    private static final String SIX = "kind 5 per 1 price 1 kind 4 per 1 price 1 kind 3 per 1 price 1"
        + " kind 2 per 1 price 1 kind 1 per 1 price 1 kind 0 per 1 price 1";

    public static void main(String[] args) {
        Due due = new Due("TermsRulesTest");
        editionsFromZeroOn(due);
        sixEditionsAtMost(due);
        editionsActFromADay(due);
        editionsAreKnownFromADay(due);
        oneRuleForAKindAtMost(due);
        wordsOfARule(due);
        anyNumberOfSteps(due);
        perhapsACap(due);
        kindsOfRules(due);
        otherNumbers(due);
        stepsRise(due);
        theFirstStepIsAboveZero(due);
        wordsOfAText(due);
        numbersOfAText(due);
        due.end();
    }

    private static void editionsFromZeroOn(Due due) {
        due.of("Terms", "EDITIONS are numbered from 0 on");
        FeeRules x = new FeeRules();
        due.is("no edition 0", x.edition(0, 0), -1);
        x.read(11, 0);
        due.is("a refused one", Told.read(x, "x", 12, 0), -1);
        x.read(13, 0);
        due.is("edition 0", x.edition(0, 0), 11);
        due.is("edition 1", x.edition(1, 0), 13);
        due.is("no edition 2", x.edition(2, 0), -1);
        x.house(1);
        x.fact(0, 0, 13, 1, 0);
        x.walk(0, 0, 0);
        due.is("the line's edition", x.line(0, 2), 1);
    }

    private static void sixEditionsAtMost(Due due) {
        due.of("Terms", "6 at most");
        FeeRules x = Told.houses(1);
        for (int i = 0; i < 6; i++) {
            due.is("edition " + i, Told.read(x, "kind 0 per 1 price " + i, 10 + i, 0), 1);
        }
        due.is("one too much", Told.read(x, "kind 0 per 1 price 9", 20, 0), -1000);
        due.is("edition 5", x.edition(5, 0), 15);
        due.is("edition 6", x.edition(6, 0), -1);
        x.fact(0, 0, 29, 100, 0);
        due.is("the sixth one is the latest", x.bill(0, 0, 0), 500);
    }

    private static void editionsActFromADay(Due due) {
        due.of("Terms", "each acting FROM a day");
        FeeRules x = Told.houses(1);
        Told.read(x, Told.CENT, 30, 0);
        x.fact(0, 0, 29, 1, 0);
        x.fact(0, 0, 30, 20, 0);
        x.fact(0, 0, 3599, 300, 0);
        due.is("a fact of the day before", x.bill(0, 0, 0), Due.NO_AMOUNT);
        due.is("a fact of that day", x.bill(0, 1, 0), 20);
        due.is("a fact of the last day", x.bill(0, 119, 0), 300);
    }

    private static void editionsAreKnownFromADay(Due due) {
        due.of("Terms", "KNOWN from a day on, with RULES");
        FeeRules x = Told.houses(1);
        Told.read(x, Told.CENT, 0, 30);
        x.fact(0, 0, 5, 7, 0);
        due.is("on the day before", x.bill(0, 0, 29), Due.NO_AMOUNT);
        due.is("on that day", x.bill(0, 0, 30), 7);
        due.is("on the last day", x.bill(0, 0, 3599), 7);
    }

    private static void oneRuleForAKindAtMost(Due due) {
        due.of("Terms", "one for a kind at most");
        due.is("one of each kind", Told.read(SIX), 6);
        due.is("a second one of kind 5", Told.read(SIX + " kind 5 per 1 price 1"), -38);
        due.is("a second one of kind 0", Told.read(SIX + " kind 0 per 1 price 1"), -38);
        due.is("the same twice", Told.read(Told.CENT + " " + Told.CENT), -8);
        FeeRules x = new FeeRules();
        due.is("kind 0 of an edition", Told.read(x, Told.CENT, 0, 0), 1);
        due.is("kind 0 of the next one", Told.read(x, Told.CENT, 0, 0), 1);
    }

    private static void wordsOfARule(Due due) {
        due.of("Terms", "A rule is told as: kind N per U price P");
        String[] words = {"kind", "0", "per", "1", "price", "1"};
        due.is("all of them", Told.read(String.join(" ", words)), 1);
        for (int i = 0; i < words.length; i++) {
            String[] changed = words.clone();
            changed[i] = words[i] + "x";
            due.is("word " + i + " with a sign more", Told.read(String.join(" ", changed)), -1 - i);
            changed[i] = "";
            due.is("word " + i + " left out", Told.read(String.join(" ", changed)), -1 - i);
            changed[i] = words[i] + " " + words[i];
            due.is("word " + i + " twice", Told.read(String.join(" ", changed)), -2 - i);
        }
        due.is("in capitals", Told.read("KIND 0 per 1 price 1"), -1);
        due.is("without the last sign", Told.read("kin 0 per 1 price 1"), -1);
        due.is("per behind price", Told.read("kind 0 price 1 per 1"), -3);
    }

    private static void anyNumberOfSteps(Due due) {
        due.of("Terms", "then any number of: step B Q");
        StringBuilder text = new StringBuilder(Told.CENT);
        for (int steps = 0; steps < 5; steps++) {
            due.is(steps + " steps", Told.read(text.toString()), 1);
            due.is(steps + " steps and a cap", Told.read(text + " cap 1"), 1);
            due.is(steps + " steps and a rule", Told.read(text + " kind 1 per 1 price 1"), 2);
            text.append(" step ").append(steps + 1).append(" 1");
        }
        while (text.length() < 490) {
            int start = text.length();
            text.append(" step ").append(start).append(" 1");
        }
        due.is("as many as a text can tell", Told.read(text.toString()), 1);
    }

    private static void perhapsACap(Due due) {
        due.of("Terms", "then, perhaps: cap C.");
        due.is("no cap", Told.read(Told.CENT), 1);
        due.is("a cap", Told.read(Told.CENT + " cap 5"), 1);
        due.is("two of them", Told.read(Told.CENT + " cap 5 cap 5"), -9);
        due.is("a step behind it", Told.read(Told.CENT + " cap 5 step 1 1"), -9);
        due.is("it behind a step", Told.read(Told.CENT + " step 1 1 cap 5"), 1);
        due.is("a rule behind it", Told.read(Told.CENT + " cap 5 kind 1 per 1 price 1 cap 5"), 2);
        due.is("before the price", Told.read("kind 0 per 1 cap 5 price 1"), -5);
    }

    private static void kindsOfRules(Due due) {
        due.of("Terms", "N 0 .. 5");
        due.is("0", Told.read("kind 0 per 1 price 1"), 1);
        due.is("5", Told.read("kind 5 per 1 price 1"), 1);
        due.is("6", Told.read("kind 6 per 1 price 1"), -2);
        due.is("999999", Told.read("kind 999999 per 1 price 1"), -2);
        due.is("1000000", Told.read("kind 1000000 per 1 price 1"), -2);
        due.is("-1", Told.read("kind -1 per 1 price 1"), -2);
        due.is("000005", Told.read("kind 000005 per 1 price 1"), 1);
    }

    private static void otherNumbers(Due due) {
        due.of("Terms", "others 0 .. 999999");
        String[] before = {"kind 0 per ", "kind 0 per 1 price ", "kind 0 per 1 price 1 step ",
            "kind 0 per 1 price 1 step 1 ", "kind 0 per 1 price 1 cap "};
        String[] behind = {" price 1", "", " 1", "", ""};
        int[] numberOfWord = {3, 5, 7, 8, 7};
        for (int i = 0; i < before.length; i++) {
            due.is(before[i] + "999999", Told.read(before[i] + "999999" + behind[i]), 1);
            due.is(before[i] + "1000000", Told.read(before[i] + "1000000" + behind[i]), -1 - numberOfWord[i]);
            due.is(before[i] + "-1", Told.read(before[i] + "-1" + behind[i]), -1 - numberOfWord[i]);
            // A step at 0 is ruled out by "the first more than 0".
            due.is(before[i] + "0", Told.read(before[i] + "0" + behind[i]), i == 2 ? -8 : 1);
        }
    }

    private static void stepsRise(Due due) {
        due.of("Terms", "each B is more than the one before");
        String rule = Told.CENT + " step 10 1 step ";
        due.is("one less", Told.read(rule + "9 1"), -11);
        due.is("the same", Told.read(rule + "10 1"), -11);
        due.is("one more", Told.read(rule + "11 1"), 1);
        due.is("the same in other digits", Told.read(rule + "0010 1"), -11);
        due.is("more than the one before, not than its price", Told.read(Told.CENT + " step 2 9 step 3 1"), 1);
        due.is("a third one, above the first", Told.read(rule + "20 1 step 15 1"), -14);
        due.is("a third one, above both", Told.read(rule + "20 1 step 21 1"), 1);
    }

    private static void theFirstStepIsAboveZero(Due due) {
        due.of("Terms", "the first more than 0.");
        due.is("0", Told.read(Told.CENT + " step 0 1"), -8);
        due.is("000000", Told.read(Told.CENT + " step 000000 1"), -8);
        due.is("1", Told.read(Told.CENT + " step 1 1"), 1);
        String two = Told.CENT + " step 500 1 kind 1 per 1 price 1 step ";
        due.is("0 of a second rule", Told.read(two + "0 1"), -17);
        due.is("1 of a second rule", Told.read(two + "1 1"), 2);
    }

    private static void wordsOfAText(Due due) {
        due.of("Terms", "WORDS of a text are its rows of bytes other than 32 and 10");
        for (int told = 0; told < 256; told++) {
            boolean parts = told == 32 || told == 10;
            char sign = (char) told;
            due.is(told + " between words", Told.read("kind" + sign + "0 per 1 price 1"), parts ? 1 : -1);
            due.is(told + " before words", Told.read(sign + "kind 0 per 1 price 1"), parts ? 1 : -1);
            due.is(told + " behind words", Told.read("kind 0 per 1 price 1 " + sign), parts ? 1 : -7);
        }
        due.is("rows of 32 and 10", Told.read("\n \nkind  0\n\nper \n 1 price 1\n\n  "), 1);
        due.is("words are counted, not blanks", Told.read("  kind \n\n 0   per \n x"), -4);
    }

    private static void numbersOfAText(Due due) {
        due.of("Terms", "a NUMBER is a word of one to six digits.");
        for (int told = 0; told < 256; told++) {
            char sign = (char) told;
            boolean isDigit = told >= 48 && told <= 57;
            if (told != 32 && told != 10) {
                due.is("price " + told, Told.read("kind 0 per 1 price " + sign), isDigit ? 1 : -6);
                due.is("price 5, " + told, Told.read("kind 0 per 1 price 5" + sign), isDigit ? 1 : -6);
                due.is("price " + told + ", 5", Told.read("kind 0 per 1 price " + sign + "5"), isDigit ? 1 : -6);
            }
        }
        due.is("six digits", Told.read("kind 0 per 1 price 123456"), 1);
        due.is("seven digits", Told.read("kind 0 per 1 price 1234567"), -6);
        due.is("six digits, five of them 0", Told.read("kind 0 per 1 price 000001"), 1);
        due.is("seven digits, six of them 0", Told.read("kind 0 per 1 price 0000001"), -6);
        due.is("twenty digits", Told.read("kind 0 per 1 price 00000000000000000001"), -6);
        due.is("digits of a fee", Told.fee("1 price 123456 step 2 078900 cap 987654", 1), 123456);
        due.is("digits of a step", Told.fee("1 price 0 step 2 078900 cap 987654", 3), 78900);
        due.is("digits of a cap", Told.fee("1 price 999999 cap 987654", 3), 987654);
    }
}
