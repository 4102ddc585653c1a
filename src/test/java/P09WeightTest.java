/** Promise 9: weight. */
public final class P09WeightTest {
    public static void main(String[] args) {
        Due due = new Due("P09WeightTest");
        FeeRules x = Told.houses(2, 6);
        Told.read(x, "kind 0 per 1 price 1", 0, 0);
        x.fact(0, 0, 0, 1001, 0);
        x.fact(1, 0, 0, 600, 0);
        due.is("weight of house 2", x.weight(2, 0, 1), false);
        due.is("weight of house -1", x.weight(-1, 0, 1), false);
        due.is("weight of flat 2", x.weight(0, 2, 1), false);
        due.is("weight of flat -1", x.weight(0, -1, 1), false);
        due.is("weight of flat 6", x.weight(1, 6, 1), false);
        due.is("weight of flat MAX", x.weight(1, Integer.MAX_VALUE, 1), false);
        due.is("weight of flat MIN", x.weight(1, Integer.MIN_VALUE, 1), false);
        due.is("weight -1", x.weight(0, 0, -1), false);
        due.is("weight 1001", x.weight(0, 0, 1001), false);
        due.is("all weights are 1", x.flat(0, 0, 0, 0), 501);
        due.is("all weights are 1", x.flat(0, 0, 0, 1), 500);
        due.is("of each flat", x.flat(1, 0, 0, 0), 100);
        due.is("the last one too", x.flat(1, 0, 0, 5), 100);
        due.is("weight 1000", x.weight(0, 0, 1000), true);
        due.is("share of 1000", x.flat(0, 0, 0, 0), 1000);
        due.is("share of 1", x.flat(0, 0, 0, 1), 1);
        due.is("the other house", x.flat(1, 0, 0, 1), 100);
        due.is("weight 0", x.weight(0, 0, 0), true);
        due.is("share of 0", x.flat(0, 0, 0, 0), 0);
        due.is("share of all", x.flat(0, 0, 0, 1), 1001);
        due.is("a refused weight", x.weight(0, 0, 1001), false);
        due.is("the weight stays", x.flat(0, 0, 0, 0), 0);
        due.is("weight of flat 5", x.weight(1, 5, 5), true);
        due.is("share of flat 5", x.flat(1, 0, 0, 5), 300);
        due.is("share of flat 4", x.flat(1, 0, 0, 4), 60);
        due.end();
    }
}
