/** What it is: how many calls an object is used for. */
public final class WhatItIsTest {
    private static final int CALLS = 512;

    public static void main(String[] args) {
        Due due = new Due("WhatItIsTest");
        theLastOneOfALongText(due);
        theLastOneOfManyWalks(due);
        theLastOneOfManyIssues(due);
        due.end();
    }

    private static void theLastOneOfALongText(Due due) {
        due.of("What it is", "An object is used for at most 512 calls after it has been made");
        FeeRules x = Told.houses(1);
        String rule = "kind 0 per 1 price 9";
        int units = CALLS - 4;
        Told.text(x, " ".repeat(units - rule.length()) + rule);
        due.is("call 510", x.read(0, 0), 1);
        due.is("call 511", x.fact(0, 0, 0, 7, 0), 0);
        due.is("call 512", x.bill(0, 0, 0), 63);
    }

    private static void theLastOneOfManyWalks(Due due) {
        due.of("What it is", "An object is used for at most 512 calls after it has been made");
        FeeRules x = Told.houses(1);
        for (int i = 0; i < 24; i++) {
            x.fact(0, 5, 0, 1000000, 0);
        }
        for (int call = 26; call < CALLS; call++) {
            due.is("call " + call, x.walk(0, 0, 0), 24);
        }
        due.is("call 512", x.write(24 * 12 - 1), 10);
    }

    private static void theLastOneOfManyIssues(Due due) {
        due.of("What it is", "An object is used for at most 512 calls after it has been made");
        FeeRules x = Told.cents(1);
        x.fact(0, 0, 0, 7, 0);
        x.fact(0, 0, 0, 5, 1);
        x.issue(0, 0, 0);
        int calls = 1 + Told.CENT.length() + 1 + 2 + 1;
        for (int call = calls + 1; call < CALLS; call++) {
            boolean isMore = (call - calls) % 2 == 1;
            due.is("call " + call, x.issue(0, 0, isMore ? 1 : 0), isMore ? 5 : -5);
        }
        due.is("call 512", x.issued(0, 0), (CALLS - 1 - calls) % 2 == 1 ? 12 : 7);
    }
}
