/** Promise 14: write. */
public final class P14WriteTest {
    private static final String WANT = "0 0 0\n5 1000000 999999000000\n2 999999 ?\n1 10 0\n0 1009 1009\n3 9 0\n1 999 ?\n";

    public static void main(String[] args) {
        Due due = new Due("P14WriteTest");
        eachByte(due);
        ofTheLinesThatAreHeld(due);
        openOnes(due);
        decimals(due);
        longestLines(due);
        noneSuch(due);
        due.end();
    }

    private static FeeRules made() {
        FeeRules x = Told.houses(1);
        Told.read(x, "kind 0 per 1 price 1 kind 5 per 1 price 999999 kind 1 per 100 price 1", 0, 0);
        Told.read(x, "kind 1 per 0 price 1", 6, 0);
        x.fact(0, 0, 0, 0, 0);
        x.fact(0, 5, 1, 1000000, 0);
        x.fact(0, 2, 2, 999999, 0);
        x.fact(0, 1, 3, 10, 0);
        x.fact(0, 0, 4, 1009, 0);
        x.fact(0, 3, 5, 9, 0);
        x.fact(0, 1, 6, 999, 0);
        x.relief(0, 3, 5, 5);
        return x;
    }

    private static void eachByte(Due due) {
        due.of("Promise 14", "as printed: of each its fact's kind, a blank, its measure, a blank, its cents");
        FeeRules x = made();
        x.walk(0, 0, 0);
        for (int i = 0; i < WANT.length(); i++) {
            due.is("write(" + i + ")", x.write(i), WANT.charAt(i));
        }
        due.is("read again, from its end", x.write(WANT.length() - 1), 10);
    }

    private static void ofTheLinesThatAreHeld(Due due) {
        due.of("Promise 14", "Byte i of the lines that are held");
        FeeRules x = made();
        due.is("before a walk", x.write(0), -1);
        x.walk(0, 0, 0);
        x.relief(0, 2, 2, 2);
        x.fact(0, 0, 7, 5, 0);
        due.is("a refused walk", x.walk(0, 0, -1), -1);
        due.is("as they were", Told.printed(x), WANT);
        x.walk(0, 0, 0);
        due.is("anew", Told.printed(x), WANT.replace("999999 ?", "999999 0") + "0 5 ?\n");
        x.walk(0, 1, 0);
        due.is("none", Told.printed(x), "");
    }

    private static void openOnes(Due due) {
        due.of("Promise 14", "or ? when it is open");
        FeeRules x = Told.houses(1);
        Told.read(x, "kind 0 per 1 price 0 kind 1 per 0 price 0", 5, 0);
        x.fact(0, 0, 4, 1, 0);
        x.fact(0, 1, 5, 2, 0);
        x.fact(0, 2, 5, 3, 0);
        x.fact(0, 0, 5, 4, 0);
        x.fact(0, 3, 5, 5, 0);
        x.relief(0, 3, 5, 5);
        x.walk(0, 0, 0);
        due.is("no edition, no fee, no rule, no price, relieved", Told.printed(x), "0 1 ?\n1 2 ?\n2 3 ?\n0 4 0\n3 5 0\n");
    }

    private static void decimals(Due due) {
        due.of("Promise 14", "in decimals, and a byte 10");
        FeeRules x = Told.houses(1);
        Told.read(x, "kind 0 per 1 price 10 kind 1 per 1 price 9 kind 2 per 1 price 101", 0, 0);
        int[] measures = {0, 1, 9, 10, 11, 99, 100, 101, 1000, 99999, 100000, 999999, 1000000};
        StringBuilder want = new StringBuilder();
        for (int i = 0; i < measures.length; i++) {
            int kind = i % 3;
            x.fact(0, kind, 0, measures[i], 0);
            long cents = (kind == 0 ? 10L : kind == 1 ? 9L : 101L) * measures[i];
            want.append(kind).append(' ').append(measures[i]).append(' ').append(cents).append('\n');
        }
        x.walk(0, 0, 0);
        due.is("digits", Told.printed(x), want.toString());
    }

    // The longest lines there can be, in the greatest number; printed in parts, each within 512 calls.
    private static void longestLines(Due due) {
        due.of("Promise 14", "Byte i of the lines that are held");
        String want = "5 1000000 999999000000\n".repeat(24);
        StringBuilder got = new StringBuilder();
        for (int part = 0; part < want.length(); part += 400) {
            FeeRules x = Told.houses(1);
            Told.read(x, "kind 5 per 1 price 999999", 0, 0);
            for (int i = 0; i < 24; i++) {
                x.fact(0, 5, 29, 1000000, 0);
            }
            x.walk(0, 0, 0);
            for (int i = part; i < part + 400 && i < want.length(); i++) {
                got.append((char) x.write(i));
            }
            due.is("behind the last one", x.write(want.length()), -1);
        }
        due.is("24 lines", got.toString(), want);
    }

    private static void noneSuch(Due due) {
        due.of("Promise 14", "NONE when there is none such.");
        FeeRules x = made();
        x.walk(0, 0, 0);
        due.is("the last one", x.write(WANT.length() - 1), 10);
        due.is("behind the last one", x.write(WANT.length()), -1);
        for (int no : Told.NO_INTS) {
            due.is("write(" + no + ")", x.write(no), -1);
        }
        x.walk(0, 1, 0);
        due.is("of no lines", x.write(0), -1);
    }
}
