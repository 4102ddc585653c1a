/** Promise 5: read. */
public final class P05ReadTest {
    private static final String SIX = "kind 5 per 1 price 1 kind 4 per 1 price 1 kind 3 per 1 price 1"
        + " kind 2 per 1 price 1 kind 1 per 1 price 1 kind 0 per 1 price 1";
    // A text in which each kind of word stands somewhere, and what can stand where each of its words does:
    // a word itself, N a kind that is free, U any number, B a number above 0, M what goes on behind a rule.
    private static final String[] WORDS = {"kind", "0", "per", "1", "price", "1", "step", "5", "1", "step", "6", "1",
        "cap", "9", "kind", "1", "per", "1", "price", "1"};
    private static final String[] PLACES = {"kind", "N", "per", "U", "price", "U", "M", "B", "U", "M", "B5", "U",
        "M", "U", "kind", "N0", "per", "U", "price", "U"};
    private static final String[] TRIED = {"kind", "per", "price", "step", "cap", "0", "1", "5", "6", "7", "999999",
        "1000000", "0000005", "x", "Kind", "-1", "1x"};

    public static void main(String[] args) {
        Due due = new Due("P05ReadTest");
        emptyThen(due);
        oneMoreEdition(due);
        notWhatWasRefused(due);
        noWords(due);
        howMany(due);
        theFirstWordThatCannotStand(due);
        eachWordAtEachPlace(due);
        whenMoreShouldCome(due);
        aSecondRuleOfAKind(due);
        daysNotSuch(due);
        whenThereAreSix(due);
        askedFirst(due);
        emptyThenToo(due);
        longTexts(due);
        due.end();
    }

    private static void emptyThen(Due due) {
        due.of("Promise 5", "The text, which is empty then");
        FeeRules x = new FeeRules();
        due.is("a text", Told.read(x, Told.CENT, 0, 0), 1);
        due.is("nothing behind it", x.read(0, 0), 0);
        due.is("a wrong text", Told.read(x, Told.CENT + " x", 0, 0), -7);
        due.is("nothing behind it", x.read(0, 0), 0);
        due.is("half a text", Told.read(x, "kind 0 per", 0, 0), -4);
        due.is("not its other half", Told.read(x, " 1 price 1", 0, 0), -1);
    }

    private static void oneMoreEdition(Due due) {
        due.of("Promise 5", "tells one more edition's rules");
        FeeRules x = Told.houses(1);
        x.fact(0, 0, 29, 10, 0);
        x.fact(0, 1, 59, 10, 0);
        Told.read(x, "kind 0 per 1 price 3 step 5 4 cap 34 kind 1 per 1 price 1", 20, 8);
        due.is("from", x.edition(0, 0), 20);
        due.is("known", x.edition(0, 1), 8);
        due.is("rules", x.edition(0, 2), 2);
        due.is("one alone", x.edition(1, 0), -1);
        due.is("by kind 0", x.bill(0, 0, 8), 34);
        due.is("by kind 1", x.bill(0, 1, 8), 10);
        due.is("a wrong one", Told.read(x, "kind 0 per 1 price 9 step 1 9 kind 1 per 1 price 9 x", 0, 0), -16);
        due.is("tells none", x.edition(1, 0), -1);
        due.is("by kind 0", x.bill(0, 0, 8), 34);
        Told.read(x, "kind 1 per 1 price 2", 20, 9);
        due.is("the next one has nothing of others", x.bill(0, 0, 9), Due.NO_AMOUNT);
        due.is("by its kind 1", x.bill(0, 1, 9), 20);
        Told.read(x, "kind 0 per 1 price 4", 20, 10);
        due.is("no step and no cap of others", x.bill(0, 0, 10), 40);
    }

    private static void notWhatWasRefused(Due due) {
        due.of("Promise 5", "tells one more edition's rules");
        FeeRules x = Told.houses(1);
        x.fact(0, 0, 0, 10, 0);
        x.fact(0, 1, 30, 10, 0);
        due.is("refused", Told.read(x, "kind 0 per 1 price 1 step 1 9 step 4 7 cap 3 kind 1 per 2 price 8 x", 0, 0), -21);
        due.is("told", Told.read(x, "kind 0 per 1 price 5", 0, 0), 1);
        due.is("no step and no cap of the refused one", x.bill(0, 0, 0), 50);
        due.is("no rule of the refused one", x.bill(0, 1, 0), Due.NO_AMOUNT);
        due.is("refused", Told.read(x, "kind 1 per 1 price 1 step 1 9 step 2 9 step 3 9 cap 1 cap", 0, 0), -18);
        due.is("told", Told.read(x, "kind 1 per 1 price 5 step 3 100", 0, 0), 1);
        due.is("its own step alone", x.bill(0, 1, 0), 715);
    }

    private static void noWords(Due due) {
        due.of("Promise 5", "(none, if it has no words).");
        String[] texts = {"", " ", "\n", " \n\n  \n"};
        for (String text : texts) {
            FeeRules x = Told.houses(1);
            due.is("read", Told.read(x, text, 7, 9), 0);
            due.is("there is an edition", x.edition(0, 0), 7);
            due.is("of no rules", x.edition(0, 2), 0);
            x.fact(0, 0, 7, 1, 0);
            x.walk(0, 0, 9);
            due.is("a line by it", Told.held(x), "0 -1 0 1; ");
        }
    }

    private static void howMany(Due due) {
        due.of("Promise 5", "Answers how many");
        String[] rules = {"", "kind 3 per 0 price 0", " kind 0 per 1 price 1 step 1 0 step 999999 5 cap 3",
            " kind 5 per 999999 price 999999 cap 999999", "\n kind\n\n1  per 1 price 1 \n", "kind 2 per 1 price 1",
            "\nkind 000004 per 000001 price 000001 step 000001 000000 cap 000000"};
        StringBuilder text = new StringBuilder();
        for (int i = 0; i < rules.length; i++) {
            text.append(rules[i]);
            FeeRules x = new FeeRules();
            due.is(i + " rules", Told.read(x, text.toString(), 0, 0), i);
            due.is("the edition's", x.edition(0, 2), i);
        }
    }

    private static void theFirstWordThatCannotStand(Due due) {
        due.of("Promise 5", "or -1 less the number (from 0 on) of the first word that cannot stand where it does");
        due.is("word 0", Told.read("x"), -1);
        due.is("the first of them all", Told.read("x x x x"), -1);
        due.is("word 1", Told.read("kind x per x price x"), -2);
        due.is("word 2", Told.read("kind 0 x x"), -3);
        due.is("behind a rule", Told.read(Told.CENT + " x kind"), -7);
        due.is("a number behind a price", Told.read(Told.CENT + " 1"), -7);
        due.is("a step that does not rise", Told.read(Told.CENT + " step 5 1 step 5 x"), -11);
        due.is("a first step at 0", Told.read(Told.CENT + " step 0 x"), -8);
        due.is("a cap behind a cap", Told.read(Told.CENT + " cap 5 cap x"), -9);
        due.is("behind six rules", Told.read(SIX + " x"), -37);
        due.is("a kind behind six rules", Told.read(SIX + " kind x"), -38);
        due.is("a kind that can't be behind six rules", Told.read(SIX + " kind 6"), -38);
        due.is("a tab is no blank", Told.read("kind\t0 per 1 price 1"), -1);
        FeeRules x = new FeeRules();
        for (int edition = 0; edition < 5; edition++) {
            due.is("kind 6, behind " + edition + " editions", Told.read(x, "kind 6", 0, 0), -2);
            due.is("kind 999999, behind " + edition + " editions", Told.read(x, "kind 999999", 0, 0), -2);
            due.is("kind x, behind " + edition + " editions", Told.read(x, "kind x per", 0, 0), -2);
            x.read(0, 0);
        }
        due.is("what other editions lack is nothing to it", Told.read(x, SIX, 0, 0), 6);
    }

    private static void eachWordAtEachPlace(Due due) {
        due.of("Promise 5", "the first word that cannot stand where it does");
        for (int place = 0; place < WORDS.length; place++) {
            String before = textOf(place);
            for (String tried : TRIED) {
                int first = canStand(PLACES[place], tried) ? place + 1 : place;
                due.is("[" + before + tried + " !]", Told.read(before + tried + " !"), -1 - first);
            }
        }
    }

    private static String textOf(int words) {
        StringBuilder text = new StringBuilder();
        for (int i = 0; i < words; i++) {
            text.append(WORDS[i]).append(' ');
        }
        return text.toString();
    }

    private static boolean canStand(String place, String word) {
        boolean isNumber = word.matches("[0-9]{1,6}");
        switch (place) {
            case "N": return isNumber && Integer.parseInt(word) <= 5;
            case "N0": return isNumber && Integer.parseInt(word) <= 5 && Integer.parseInt(word) != 0;
            case "U": return isNumber;
            case "B": return isNumber && Integer.parseInt(word) > 0;
            case "B5": return isNumber && Integer.parseInt(word) > 5;
            case "M": return word.equals("step") || word.equals("cap") || word.equals("kind");
            default: return word.equals(place);
        }
    }

    private static void whenMoreShouldCome(Due due) {
        due.of("Promise 5", "(how many words there are, when more should come;");
        int[] rulesBehind = {0, -1, -1, -1, -1, -1, 1, -1, -1, 1, -1, -1, 1, -1, 1, -1, -1, -1, -1, -1, 2};
        for (int words = 0; words < rulesBehind.length; words++) {
            int want = rulesBehind[words] >= 0 ? rulesBehind[words] : -1 - words;
            String text = textOf(words);
            due.is("[" + text + "]", Told.read(text), want);
            due.is("[" + text.trim() + "]", Told.read(text.trim()), want);
            due.is("[" + text + "\\n]", Told.read(text + "\n"), want);
        }
        due.is("a kind behind six rules", Told.read(SIX + " kind"), -38);
    }

    private static void aSecondRuleOfAKind(Due due) {
        due.of("Promise 5", "a second rule of a kind cannot stand at its number)");
        due.is("a whole one", Told.read(Told.CENT + " " + Told.CENT), -8);
        due.is("its number alone", Told.read(Told.CENT + " kind 0"), -8);
        due.is("its number in other digits, then a wrong word", Told.read(Told.CENT + " kind 00 x"), -8);
        due.is("behind another one", Told.read("kind 3 per 1 price 1 " + Told.CENT + " cap 1 kind 3 per"), -16);
        due.is("behind six", Told.read(SIX + " kind 2"), -38);
        FeeRules x = Told.houses(1);
        due.is("refused", Told.read(x, "kind 0 per 1 price 3 kind 0 per 1 price 9", 0, 0), -8);
        due.is("tells no edition", x.edition(0, 0), -1);
        due.is("a rule of the kind in the next text", Told.read(x, Told.CENT, 0, 0), 1);
        due.is("and in the one behind", Told.read(x, Told.CENT, 0, 0), 1);
    }

    private static void daysNotSuch(Due due) {
        due.of("Promise 5", "-1000 when the days are not such");
        FeeRules x = new FeeRules();
        for (long no : Told.NO_DAYS) {
            due.is("from " + no, Told.read(x, Told.CENT, no, 0), -1000);
            due.is("known " + no, Told.read(x, Told.CENT, 0, no), -1000);
        }
        due.is("both", Told.read(x, Told.CENT, -1, 3600), -1000);
        due.is("none was told", x.edition(0, 0), -1);
        due.is("3599 and 0", Told.read(x, Told.CENT, 3599, 0), 1);
        due.is("0 and 3599", Told.read(x, Told.CENT, 0, 3599), 1);
        due.is("from", x.edition(0, 0), 3599);
        due.is("known", x.edition(1, 1), 3599);
    }

    private static void whenThereAreSix(Due due) {
        due.of("Promise 5", "or there are 6 editions");
        FeeRules x = new FeeRules();
        for (int i = 0; i < 5; i++) {
            Told.read(x, Told.CENT, i, i);
        }
        due.is("when there are 5", Told.read(x, Told.CENT, 5, 7), 1);
        due.is("when there are 6", Told.read(x, Told.CENT, 6, 6), -1000);
        due.is("when there are 6, an empty text", x.read(6, 6), -1000);
        due.is("the sixth one stays", x.edition(5, 1), 7);
        due.is("no seventh one", x.edition(6, 0), -1);
    }

    private static void askedFirst(Due due) {
        due.of("Promise 5", "(asked first;");
        FeeRules x = new FeeRules();
        due.is("a wrong text on days not such", Told.read(x, "x", -1, 0), -1000);
        due.is("a wrong text known from no such day", Told.read(x, "kind 0 per", 0, 3600), -1000);
        due.is("no words on days not such", x.read(3600, 0), -1000);
        for (int i = 0; i < 6; i++) {
            x.read(0, 0);
        }
        due.is("a wrong text when there are 6", Told.read(x, "x", 0, 0), -1000);
        due.is("a second rule when there are 6", Told.read(x, Told.CENT + " kind 0", 0, 0), -1000);
    }

    private static void emptyThenToo(Due due) {
        due.of("Promise 5", "the text is empty then, too).");
        FeeRules x = new FeeRules();
        due.is("from no such day", Told.read(x, "x", -1, 0), -1000);
        due.is("the text is empty", x.read(0, 0), 0);
        due.is("known from no such day", Told.read(x, Told.CENT, 0, 3600), -1000);
        due.is("the text is empty", x.read(0, 0), 0);
        due.is("half a text", Told.read(x, "kind 0 per", 0, -1), -1000);
        due.is("the next one is a text alone", Told.read(x, Told.CENT, 0, 0), 1);
    }

    // The most steps and the most words that a text of 512 calls can tell.
    private static void longTexts(Due due) {
        due.of("Promise 5", "tells one more edition's rules");
        StringBuilder text = new StringBuilder("kind 0 per 1 price 0");
        int steps = 0;
        for (; text.length() < 480; steps++) {
            text.append(" step ").append(steps + 1).append(' ').append((steps + 1) % 10);
        }
        long sum = 0;
        for (int unit = 0; unit < 1000; unit++) {
            sum += Math.min(unit, steps) % 10;
        }
        FeeRules x = Told.houses(1);
        due.is("many steps", Told.read(x, text.toString(), 0, 0), 1);
        x.fact(0, 0, 0, 1000, 0);
        due.is("the fee by them", x.bill(0, 0, 0), sum);
        due.is("many steps, the last one without a price",
            Told.read(text.substring(0, text.length() - 2)), -6 - 3 * steps);
        due.is("many words", Told.read(Told.CENT + " 2".repeat(240)), -7);
        due.is("many steps, then a wrong word", Told.read(text + " x"), -7 - 3 * steps);
    }
}
