/** Short ways to tell an object what a test needs, and to look at it. */
final class Told {
    /** A rule by which each unit of kind 0 is a cent. */
    static final String CENT = "kind 0 per 1 price 1";
    static final int[] NO_INTS = {-1, Integer.MIN_VALUE, Integer.MAX_VALUE};
    static final long[] NO_DAYS = {-1, 3600, 1L << 32, Long.MIN_VALUE, Long.MAX_VALUE};
    static final int[] NO_MONTHS = {-1, 120, Integer.MIN_VALUE, Integer.MAX_VALUE};

    private Told() {
    }

    static void text(FeeRules x, String text) {
        for (int i = 0; i < text.length(); i++) {
            x.unit(text.charAt(i));
        }
    }

    static int read(FeeRules x, String text, long from, long known) {
        text(x, text);
        return x.read(from, known);
    }

    /** What read() answers of a text, told to a new object. */
    static int read(String text) {
        return read(new FeeRules(), text, 0, 0);
    }

    /** An object with houses of these numbers of flats. */
    static FeeRules houses(int... flats) {
        FeeRules x = new FeeRules();
        for (int each : flats) {
            x.house(each);
        }
        return x;
    }

    /** Houses, and an edition from day 0 on by which each unit of kind 0 is a cent. */
    static FeeRules cents(int... flats) {
        FeeRules x = houses(flats);
        read(x, CENT, 0, 0);
        return x;
    }

    /** The fee of a measure by a rule of kind 0, which is given from its U on. */
    static long fee(String rule, long measure) {
        FeeRules x = houses(1);
        read(x, "kind 0 per " + rule, 0, 0);
        x.fact(0, 0, 0, measure, 0);
        return x.bill(0, 0, 0);
    }

    /** The lines that are held: of each its fact, its cents, its edition and what it lacks. */
    static String held(FeeRules x) {
        StringBuilder all = new StringBuilder();
        for (int k = 0; k < 30 && x.line(k, 0) != FeeRules.NONE; k++) {
            all.append(x.line(k, 0)).append(' ').append(x.line(k, 1)).append(' ');
            all.append(x.line(k, 2)).append(' ').append(x.line(k, 3)).append("; ");
        }
        return all.toString();
    }

    /** All that write() answers, to the first NONE. */
    static String printed(FeeRules x) {
        StringBuilder all = new StringBuilder();
        for (int i = 0; i < 1000; i++) {
            int printed = x.write(i);
            if (printed == FeeRules.NONE) {
                break;
            }
            all.append((char) printed);
        }
        return all.toString();
    }

    /** The shares of all flats of a house in month 0. */
    static String shares(FeeRules x, int house, int flats) {
        StringBuilder all = new StringBuilder();
        for (int flat = 0; flat < flats; flat++) {
            all.append(x.flat(house, 0, 0, flat)).append(' ');
        }
        return all.toString();
    }
}
