/** Promise 6: edition. */
public final class P06EditionTest {
    public static void main(String[] args) {
        Due due = new Due("P06EditionTest");
        fromWhenItActs(due);
        fromWhenItIsKnown(due);
        howManyRules(due);
        noSuchEdition(due);
        nothingSuchOfIt(due);
        due.end();
    }

    private static FeeRules threeEditions() {
        FeeRules x = new FeeRules();
        x.read(7, 3599);
        Told.read(x, "kind 4 per 1 price 1 kind 2 per 0 price 1", 3599, 0);
        Told.read(x, "kind 4 per 1 x", 1, 2);
        Told.read(x, "kind 1 per 0 price 1", 0, 40);
        return x;
    }

    private static void threeAnswers(Due due, int what, int... want) {
        FeeRules x = threeEditions();
        for (int k = 0; k < want.length; k++) {
            due.is("edition(" + k + ", " + what + ")", x.edition(k, what), want[k]);
        }
    }

    private static void fromWhenItActs(Due due) {
        due.of("Promise 6", "Of an edition: what = 0 from when it acts");
        threeAnswers(due, 0, 7, 3599, 0);
    }

    private static void fromWhenItIsKnown(Due due) {
        due.of("Promise 6", "1 from when it is known");
        threeAnswers(due, 1, 3599, 0, 40);
    }

    private static void howManyRules(Due due) {
        due.of("Promise 6", "2 how many rules it has");
        threeAnswers(due, 2, 0, 2, 1);
    }

    private static void noSuchEdition(Due due) {
        due.of("Promise 6", "NONE when there are none such.");
        FeeRules x = threeEditions();
        int[] none = {3, 5, 6, -1, Integer.MIN_VALUE, Integer.MAX_VALUE};
        for (int k : none) {
            for (int what = 0; what < 3; what++) {
                due.is("edition(" + k + ", " + what + ")", x.edition(k, what), -1);
            }
        }
    }

    private static void nothingSuchOfIt(Due due) {
        due.of("Promise 6", "NONE when there are none such.");
        FeeRules x = threeEditions();
        int[] none = {3, -1, 4, Integer.MIN_VALUE, Integer.MAX_VALUE};
        for (int what : none) {
            for (int k = 0; k < 3; k++) {
                due.is("edition(" + k + ", " + what + ")", x.edition(k, what), -1);
            }
        }
    }
}
