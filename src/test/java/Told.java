/** Short ways to tell an object what a test needs. */
final class Told {
    private Told() {
    }

    static void text(FeeRules x, String text) {
        for (int i = 0; i < text.length(); i++) {
            if (!x.unit(text.charAt(i))) {
                throw new IllegalStateException("unit " + i + " was refused");
            }
        }
    }

    static int read(FeeRules x, String text, long from, long known) {
        text(x, text);
        return x.read(from, known);
    }

    /** An object with houses of these numbers of flats. */
    static FeeRules houses(int... flats) {
        FeeRules x = new FeeRules();
        for (int each : flats) {
            x.house(each);
        }
        return x;
    }

    /** All that write() answers, to the first NONE. */
    static String printed(FeeRules x) {
        StringBuilder all = new StringBuilder();
        for (int i = 0; x.write(i) != FeeRules.NONE; i++) {
            all.append((char) x.write(i));
        }
        return all.toString();
    }

    /** The fee of a measure by a rule of kind 0, which is given from its U on. */
    static long fee(String rule, long measure) {
        FeeRules x = houses(1);
        if (read(x, "kind 0 per " + rule, 0, 0) != 1) {
            throw new IllegalStateException("the rule was refused: " + rule);
        }
        x.fact(0, 0, 0, measure, 0);
        return x.bill(0, 0, 0);
    }
}
