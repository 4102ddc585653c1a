/** Promise 4: unit. */
public final class P04UnitTest {
    public static void main(String[] args) {
        Due due = new Due("P04UnitTest");
        oneMore(due);
        allBytes(due);
        answersTrue(due);
        notSuch(due);
        when600AreThere(due);
        due.end();
    }

    private static void oneMore(Due due) {
        due.of("Promise 4", "One more byte of the text");
        FeeRules x = new FeeRules();
        Told.text(x, "kind 0 per 1 price 12");
        x.unit('x');
        due.is("read of the text and x", x.read(0, 0), -6);
        Told.text(x, "kind 0 per 1 price 12");
        x.unit(' ');
        x.unit('x');
        due.is("read of the text, a blank and x", x.read(0, 0), -7);
    }

    private static void allBytes(Due due) {
        due.of("Promise 4", "0 .. 255.");
        FeeRules x = new FeeRules();
        for (int u = 0; u < 256; u++) {
            due.is("unit(" + u + ")", x.unit(u), true);
        }
        due.is("unit(-1)", x.unit(-1), false);
        due.is("unit(256)", x.unit(256), false);
        due.is("read of them", x.read(0, 0), -1);
        x.unit(0);
        due.is("a byte 0 is told", x.read(0, 0), -1);
        x.unit(255);
        due.is("a byte 255 is told", x.read(0, 0), -1);
        Told.text(x, "kind" + (char) 138 + "0");
        due.is("a byte 138 is not 10", x.read(0, 0), -1);
        Told.text(x, "kind" + (char) 160 + "0");
        due.is("a byte 160 is not 32", x.read(0, 0), -1);
    }

    // 512 calls hold 511 bytes and their reading; none of them is one too much.
    private static void answersTrue(Due due) {
        due.of("Promise 4", "Answers true");
        FeeRules x = new FeeRules();
        String rule = "kind 0 per 1 price 1";
        for (int i = rule.length(); i < 511; i++) {
            due.is("unit(10), of the bytes before the rule", x.unit(10), true);
        }
        for (int i = 0; i < rule.length(); i++) {
            due.is("unit " + i + " of the rule", x.unit(rule.charAt(i)), true);
        }
        due.is("read of 511 bytes", x.read(0, 0), 1);
    }

    private static void notSuch(Due due) {
        due.of("Promise 4", "false when it is not such");
        FeeRules x = new FeeRules();
        int[] noBytes = {-1, 256, 256 + 'x', 'x' - 256, 65536 + 'x', Integer.MIN_VALUE, Integer.MAX_VALUE};
        for (int no : noBytes) {
            due.is("unit(" + no + ")", x.unit(no), false);
        }
        due.is("none was added", x.read(0, 0), 0);
        Told.text(x, "ki");
        for (int no : noBytes) {
            due.is("unit(" + no + ") within a word", x.unit(no), false);
        }
        Told.text(x, "nd 0 per 1 price 1");
        due.is("none was added", x.read(0, 0), 1);
    }

    // The document leaves free what calls behind the 512th answer, and 512 calls can't tell 600 bytes. So this test
    // asks more of the class than the document does: that it holds to the 600 all the same.
    private static void when600AreThere(Due due) {
        due.of("Promise 4", "or there are 600.");
        FeeRules x = new FeeRules();
        Told.text(x, "kind 0 per 1 price 1");
        for (int i = 20; i < 599; i++) {
            due.is("unit, when there are " + i, x.unit(32), true);
        }
        due.is("unit, when there are 599", x.unit('x'), true);
        due.is("unit, when there are 600", x.unit('y'), false);
        due.is("not such, when there are 600", x.unit(-1), false);
        due.is("read of all 600", x.read(0, 0), -7);
        due.is("the text is empty again", x.unit(32), true);
        due.is("read of the new text", x.read(0, 0), 0);
    }
}
