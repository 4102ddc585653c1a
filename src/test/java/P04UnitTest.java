/** Promise 4: unit. */
public final class P04UnitTest {
    public static void main(String[] args) {
        Due due = new Due("P04UnitTest");
        FeeRules x = new FeeRules();
        due.is("unit(-1)", x.unit(-1), false);
        due.is("unit(256)", x.unit(256), false);
        due.is("unit(MIN)", x.unit(Integer.MIN_VALUE), false);
        due.is("unit(MAX)", x.unit(Integer.MAX_VALUE), false);
        due.is("unit(256 + 32)", x.unit(288), false);
        due.is("the text is empty", x.read(0, 0), 0);
        due.is("unit(0)", x.unit(0), true);
        due.is("a byte 0 is a word", x.read(0, 0), -1);
        due.is("unit(255)", x.unit(255), true);
        due.is("a byte 255 is a word", x.read(0, 0), -1);
        Told.text(x, "ki");
        due.is("a wrong byte between", x.unit(256), false);
        Told.text(x, "nd 0 per 1 price 1");
        due.is("it changed nothing", x.read(0, 0), 1);
        bytesOfAText(due, 512);
        full(due);
        due.end();
    }

    // A run of 512 calls cannot fill a text; that it holds 600 is told all the same.
    private static void full(Due due) {
        FeeRules x = Told.houses(1);
        Told.text(x, "kind 0 per 1 price 1 cap 7");
        for (int i = 26; i < 600; i++) {
            due.is("unit " + i, x.unit(32), true);
        }
        due.is("a byte too much", x.unit('9'), false);
        due.is("a wrong byte too much", x.unit(-1), false);
        due.is("the text is whole", x.read(0, 0), 1);
        due.is("the text is empty again", x.unit('x'), true);
        due.is("it is the new text", x.read(0, 0), -1);
        bytesOfAText(due, 600);
    }

    // The last byte that is told counts.
    private static void bytesOfAText(Due due, int length) {
        FeeRules x = new FeeRules();
        String rule = "kind 0 per 1 price 12";
        for (int i = rule.length(); i < length - 1; i++) {
            x.unit(10);
        }
        Told.text(x, rule.substring(0, rule.length() - 1));
        due.is("the last of " + length, x.unit('x'), true);
        due.is("read of " + length, x.read(0, 0), -6);
    }
}
