/** All promises: many runs of calls, each answered by the program and by the model. */
public final class ModelTest {
    private static final int RUNS = 4000;
    private static final int CALLS = 512;
    // The most calls that callAny makes, but for a text, which is cut to the calls that are left.
    private static final int MOST_AT_ONCE = 40;

    private final Due due;
    private final Numbers numbers;
    private final FeeRules x = new FeeRules();
    private final Model model = new Model();
    // Runs keep to few months and days, so that facts, editions and questions meet.
    private final int months;
    private final int run;
    private int calls = 0;

    private ModelTest(Due due, int run) {
        this.due = due;
        this.run = run;
        numbers = new Numbers(run);
        months = 1 + numbers.below(3);
    }

    public static void main(String[] args) {
        Due due = new Due("ModelTest");
        for (int run = 0; run < RUNS && !due.hasWrong(); run++) {
            new ModelTest(due, run).play();
        }
        due.end();
    }

    private void play() {
        int first = numbers.below(4) + 1;
        for (int i = 0; i < first; i++) {
            callHouse();
        }
        while (left() >= MOST_AT_ONCE && !due.hasWrong()) {
            callAny(numbers.below(40));
        }
        while (left() > 0) {
            callBill();
        }
    }

    private int left() {
        return CALLS - calls;
    }

    private void answer(String call, long got, long want) {
        calls++;
        due.is("run " + run + " call " + calls + " " + call, got, want);
    }

    private void callAny(int which) {
        if (which < 6) {
            callFact();
        } else if (which < 9) {
            callRead();
        } else if (which < 11) {
            callCap();
        } else if (which < 12) {
            callRelief();
        } else if (which < 15) {
            callWeight();
        } else if (which < 21) {
            callWalkAndLook();
        } else if (which < 25) {
            callBill();
        } else if (which < 30) {
            callFlat();
        } else if (which < 38) {
            callIssues();
        } else if (which < 39) {
            int k = numbers.below(8) - 1;
            int what = numbers.below(5) - 1;
            answer("edition(" + k + ", " + what + ")", x.edition(k, what), model.edition(k, what));
        } else {
            callHouse();
        }
    }

    private int aHouse() {
        return numbers.oneIn(30) ? numbers.below(7) - 1 : numbers.below(3);
    }

    private int aKind() {
        return numbers.oneIn(40) ? numbers.below(9) - 1 : numbers.below(4);
    }

    private int aMonth() {
        return numbers.oneIn(40) ? new int[] {-1, 119, 120}[numbers.below(3)] : numbers.below(months);
    }

    private long aDay() {
        if (numbers.oneIn(40)) {
            return new long[] {-1, 3599, 3600}[numbers.below(3)];
        }
        return numbers.below(30 * months);
    }

    private long aMeasure() {
        int which = numbers.below(8);
        return which == 0 ? new long[] {-1, 0, 1000000, 1000001}[numbers.below(4)]
            : which == 1 ? numbers.below(1000001) : numbers.below(60);
    }

    private void callHouse() {
        int flats = numbers.oneIn(10) ? numbers.below(10) - 1 : 1 + numbers.below(6);
        answer("house(" + flats + ")", x.house(flats), model.house(flats));
    }

    private void callFact() {
        int house = aHouse();
        int kind = aKind();
        long day = aDay();
        long v = aMeasure();
        long known = aDay();
        answer("fact", x.fact(house, kind, day, v, known), model.fact(house, kind, day, v, known));
    }

    private void callRead() {
        String text = aText();
        for (int i = 0; i < text.length() && left() > 2; i++) {
            answer("unit", x.unit(text.charAt(i)) ? 1 : 0, model.unit(text.charAt(i)));
        }
        if (numbers.oneIn(20)) {
            int wrong = numbers.oneIn(2) ? -1 : 256;
            answer("unit(" + wrong + ")", x.unit(wrong) ? 1 : 0, model.unit(wrong));
        }
        long from = aDay();
        long known = aDay();
        answer("read of [" + text + "]", x.read(from, known), model.read(from, known));
    }

    private String aText() {
        StringBuilder text = new StringBuilder();
        int rules = numbers.below(4);
        for (int i = 0; i < rules; i++) {
            text.append("kind ").append(aKind()).append(" per ").append(numbers.oneIn(8) ? 0 : 1 + numbers.below(12));
            text.append(" price ").append(aPrice());
            int steps = numbers.below(3);
            int start = 0;
            for (int step = 0; step < steps; step++) {
                start += numbers.oneIn(20) ? 0 : 1 + numbers.below(25);
                text.append(" step ").append(start).append(numbers.oneIn(4) ? "\n" : " ").append(aPrice());
            }
            if (numbers.oneIn(3)) {
                text.append(" cap ").append(numbers.below(500));
            }
            text.append(numbers.oneIn(3) ? " \n " : " ");
        }
        if (numbers.oneIn(6)) {
            spoil(text);
        }
        return text.toString();
    }

    private int aPrice() {
        return numbers.oneIn(6) ? numbers.below(1000001) : numbers.below(40);
    }

    private void spoil(StringBuilder text) {
        int at = numbers.below(text.length() + 1);
        switch (numbers.below(4)) {
            case 0:
                text.setLength(at);
                break;
            case 1:
                text.insert(at, (char) numbers.below(256));
                break;
            case 2:
                text.insert(at, new String[] {" cap ", " kind ", " 7 ", " step ", " per ", "0"}[numbers.below(6)]);
                break;
            default:
                text.delete(at, Math.min(text.length(), at + 1 + numbers.below(4)));
        }
    }

    private void callCap() {
        int month = aMonth();
        long cents = numbers.oneIn(10) ? new long[] {-1, 0, 1000000000000L, 1000000000001L}[numbers.below(4)]
            : numbers.below(3000);
        answer("cap(" + month + ", " + cents + ")", x.cap(month, cents) ? 1 : 0, model.cap(month, cents));
    }

    private void callRelief() {
        int house = aHouse();
        int kind = aKind();
        long from = aDay();
        long to = from + numbers.below(8) - 1;
        answer("relief", x.relief(house, kind, from, to) ? 1 : 0, model.relief(house, kind, from, to));
    }

    private void callWeight() {
        int house = aHouse();
        int flat = numbers.below(7) - (numbers.oneIn(10) ? 1 : 0);
        int w = numbers.oneIn(3) ? 0 : numbers.oneIn(4) ? numbers.below(1003) - 1 : numbers.below(5);
        answer("weight", x.weight(house, flat, w) ? 1 : 0, model.weight(house, flat, w));
    }

    private void callBill() {
        int house = aHouse();
        int month = aMonth();
        long on = aDay();
        answer("bill", x.bill(house, month, on), model.bill(house, month, on));
    }

    private void callWalkAndLook() {
        int house = aHouse();
        int month = aMonth();
        long on = aDay();
        answer("walk", x.walk(house, month, on), model.walk(house, month, on));
        for (int look = numbers.below(12); look > 0; look--) {
            int k = numbers.below(7) - 1;
            int what = numbers.below(5) - (numbers.oneIn(9) ? 1 : 0);
            int i = numbers.below(60) - 1;
            answer("line(" + k + ", " + what + ")", x.line(k, what), model.line(k, what));
            answer("open(" + k + ")", x.open(k), model.open(k));
            answer("write(" + i + ")", x.write(i), model.write(i));
        }
    }

    private void callFlat() {
        int house = aHouse();
        int month = aMonth();
        long on = aDay();
        for (int flat = numbers.oneIn(10) ? -1 : 0; flat < 7; flat += 1 + numbers.below(3)) {
            answer("flat " + flat, x.flat(house, month, on, flat), model.flat(house, month, on, flat));
        }
    }

    private void callIssues() {
        int house = aHouse();
        int month = aMonth();
        long on = aDay();
        int which = numbers.below(6);
        if (which < 3) {
            answer("issue", x.issue(house, month, on), model.issue(house, month, on));
        } else if (which < 5) {
            answer("issued", x.issued(house, month), model.issued(house, month));
        } else {
            answer("reverse", x.reverse(house, month), model.reverse(house, month));
        }
    }
}
