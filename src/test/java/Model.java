import java.math.BigInteger;
import java.util.ArrayList;
import java.util.List;
import java.util.Map;
import java.util.TreeMap;

/** What the document says, told once more in another way, to be asked beside the program. */
final class Model {
    private static final long NO_AMOUNT = Long.MIN_VALUE;

    /** A rule: the unit, the price, the cap or null, and the prices by the units they begin at. */
    private static final class Rule {
        long per;
        final TreeMap<Long, Long> prices = new TreeMap<>();
        Long most;

        /** Null when it fails. */
        Long fee(long measure) {
            if (per == 0) {
                return null;
            }
            BigInteger sum = BigInteger.ZERO;
            for (Map.Entry<Long, Long> piece : prices.entrySet()) {
                Long next = prices.higherKey(piece.getKey());
                long end = next == null ? measure : Math.min(next, measure);
                long units = Math.max(0, end - piece.getKey());
                sum = sum.add(BigInteger.valueOf(units).multiply(BigInteger.valueOf(piece.getValue())));
            }
            long fee = sum.divide(BigInteger.valueOf(per)).longValueExact();
            return most == null ? fee : Math.min(most, fee);
        }
    }

    private record Edition(long from, long known, Map<Integer, Rule> rules) {
    }

    private record Fact(int number, int house, int kind, long day, long v, long known) {
    }

    private record Line(Fact fact, Long cents, int edition, int lacks) {
    }

    private record Relief(int house, int kind, long from, long to) {
    }

    private final List<int[]> weights = new ArrayList<>();
    private final List<Fact> facts = new ArrayList<>();
    private final List<Edition> editions = new ArrayList<>();
    private final List<Relief> reliefs = new ArrayList<>();
    private final Map<Integer, Long> caps = new TreeMap<>();
    private final Map<String, Long> issues = new TreeMap<>();
    private StringBuilder text = new StringBuilder();
    private List<Line> held = new ArrayList<>();

    private static boolean in(long x, long least, long most) {
        return x >= least && x <= most;
    }

    private boolean isHouse(int house) {
        return in(house, 0, weights.size() - 1);
    }

    private boolean isMonthOf(int house, int month) {
        return isHouse(house) && in(month, 0, 119);
    }

    long house(int flats) {
        if (weights.size() == 4 || !in(flats, 1, 6)) {
            return -1;
        }
        int[] row = new int[flats];
        java.util.Arrays.fill(row, 1);
        weights.add(row);
        return weights.size() - 1;
    }

    long fact(int house, int kind, long day, long v, long known) {
        boolean fits = isHouse(house) && in(kind, 0, 5) && in(day, 0, 3599) && in(v, 0, 1000000)
            && in(known, 0, 3599) && facts.size() < 24;
        if (!fits) {
            return -1;
        }
        facts.add(new Fact(facts.size(), house, kind, day, v, known));
        return facts.size() - 1;
    }

    long unit(int u) {
        if (!in(u, 0, 255) || text.length() == 600) {
            return 0;
        }
        text.append((char) u);
        return 1;
    }

    long read(long from, long known) {
        String told = text.toString();
        text = new StringBuilder();
        if (!in(from, 0, 3599) || !in(known, 0, 3599) || editions.size() == 6) {
            return -1000;
        }
        List<String> words = new ArrayList<>();
        for (String word : told.split("[ \n]+")) {
            if (!word.isEmpty()) {
                words.add(word);
            }
        }
        Map<Integer, Rule> rules = new TreeMap<>();
        int stands = standing(words, rules);
        if (stands >= 0) {
            return -1 - stands;
        }
        editions.add(new Edition(from, known, rules));
        return rules.size();
    }

    /** The number of the first word that cannot stand, -1 when all can; a machine of states. */
    private static int standing(List<String> words, Map<Integer, Rule> rules) {
        String state = "rules";
        Rule rule = null;
        long start = 0;
        for (int i = 0; i < words.size(); i++) {
            String word = words.get(i);
            boolean isNumber = word.matches("[0-9]{1,6}");
            long number = isNumber ? Long.parseLong(word) : -1;
            switch (state) {
                case "rules", "priced", "capped" -> {
                    boolean isKind = word.equals("kind");
                    boolean isMore = state.equals("priced") && (word.equals("step") || word.equals("cap"));
                    if (!isKind && !isMore) {
                        return i;
                    }
                    state = word;
                }
                case "kind" -> {
                    if (!isNumber || number > 5 || rules.containsKey((int) number)) {
                        return i;
                    }
                    rule = new Rule();
                    rules.put((int) number, rule);
                    state = "per?";
                }
                case "per?" -> {
                    if (!word.equals("per")) {
                        return i;
                    }
                    state = "per";
                }
                case "per" -> {
                    if (!isNumber) {
                        return i;
                    }
                    rule.per = number;
                    state = "price?";
                }
                case "price?" -> {
                    if (!word.equals("price")) {
                        return i;
                    }
                    state = "price";
                }
                case "price" -> {
                    if (!isNumber) {
                        return i;
                    }
                    rule.prices.put(0L, number);
                    state = "priced";
                }
                case "step" -> {
                    if (!isNumber || number <= rule.prices.lastKey()) {
                        return i;
                    }
                    start = number;
                    state = "step price";
                }
                case "step price" -> {
                    if (!isNumber) {
                        return i;
                    }
                    rule.prices.put(start, number);
                    state = "priced";
                }
                default -> {
                    if (!isNumber) {
                        return i;
                    }
                    rule.most = number;
                    state = "capped";
                }
            }
        }
        boolean ends = state.equals("rules") || state.equals("priced") || state.equals("capped");
        return ends ? -1 : words.size();
    }

    long edition(int k, int what) {
        if (!in(k, 0, editions.size() - 1) || !in(what, 0, 2)) {
            return -1;
        }
        Edition edition = editions.get(k);
        return what == 0 ? edition.from : what == 1 ? edition.known : edition.rules.size();
    }

    long cap(int month, long cents) {
        if (!in(month, 0, 119) || !in(cents, 0, 1000000000000L)) {
            return 0;
        }
        caps.put(month, cents);
        return 1;
    }

    long relief(int house, int kind, long from, long to) {
        boolean fits = isHouse(house) && in(kind, 0, 5) && in(from, 0, 3599) && in(to, from, 3599);
        if (!fits || reliefs.size() == 8) {
            return 0;
        }
        reliefs.add(new Relief(house, kind, from, to));
        return 1;
    }

    long weight(int house, int flat, int w) {
        if (!isHouse(house) || !in(flat, 0, weights.get(house).length - 1) || !in(w, 0, 1000)) {
            return 0;
        }
        weights.get(house)[flat] = w;
        return 1;
    }

    /** Null when there are none such. */
    private List<Line> lines(int house, int month, long on) {
        if (!isMonthOf(house, month) || !in(on, 0, 3599)) {
            return null;
        }
        List<Line> lines = new ArrayList<>();
        for (Fact fact : facts) {
            if (fact.house == house && fact.day >= 30L * month && fact.day < 30L * month + 30 && fact.known <= on) {
                lines.add(lineOf(fact, on));
            }
        }
        return lines;
    }

    private Line lineOf(Fact fact, long on) {
        for (Relief relief : reliefs) {
            if (relief.house == fact.house && relief.kind == fact.kind && in(fact.day, relief.from, relief.to)) {
                return new Line(fact, 0L, -1, 0);
            }
        }
        int best = -1;
        long bestDay = -1;
        for (int i = editions.size() - 1; i >= 0; i--) {
            Edition edition = editions.get(i);
            if (edition.known <= on && edition.from <= fact.day && edition.from > bestDay) {
                best = i;
                bestDay = edition.from;
            }
        }
        Rule rule = best < 0 ? null : editions.get(best).rules.get(fact.kind);
        if (rule == null) {
            return new Line(fact, null, best, 1);
        }
        Long fee = rule.fee(fact.v);
        return new Line(fact, fee, best, fee == null ? 2 : 0);
    }

    long bill(int house, int month, long on) {
        List<Line> lines = lines(house, month, on);
        if (lines == null) {
            return NO_AMOUNT;
        }
        long sum = 0;
        for (Line line : lines) {
            if (line.cents == null) {
                return NO_AMOUNT;
            }
            sum += line.cents;
        }
        return caps.containsKey(month) ? Math.min(caps.get(month), sum) : sum;
    }

    long walk(int house, int month, long on) {
        List<Line> lines = lines(house, month, on);
        if (lines == null) {
            return -1;
        }
        held = lines;
        return held.size();
    }

    long line(int k, int what) {
        if (!in(k, 0, held.size() - 1) || !in(what, 0, 3)) {
            return -1;
        }
        Line line = held.get(k);
        if (what == 1) {
            return line.cents == null ? -1 : line.cents;
        }
        return what == 0 ? line.fact.number : what == 2 ? line.edition : line.lacks;
    }

    long open(int k) {
        List<Integer> open = new ArrayList<>();
        for (Line line : held) {
            if (line.lacks > 0) {
                open.add(line.fact.number);
            }
        }
        return in(k, 0, open.size() - 1) ? open.get(k) : -1;
    }

    long write(int i) {
        StringBuilder all = new StringBuilder();
        for (Line line : held) {
            all.append(line.fact.kind + " " + line.fact.v + " " + (line.cents == null ? "?" : "" + line.cents) + "\n");
        }
        return in(i, 0, all.length() - 1) ? all.charAt(i) : -1;
    }

    long flat(int house, int month, long on, int flat) {
        long bill = bill(house, month, on);
        if (bill == NO_AMOUNT || !in(flat, 0, weights.get(house).length - 1)) {
            return NO_AMOUNT;
        }
        int[] row = weights.get(house);
        long all = 0;
        for (int w : row) {
            all += w;
        }
        if (all == 0) {
            return NO_AMOUNT;
        }
        long[] shares = new long[row.length];
        long left = bill;
        for (int i = 0; i < row.length; i++) {
            BigInteger product = BigInteger.valueOf(bill).multiply(BigInteger.valueOf(row[i]));
            shares[i] = product.divide(BigInteger.valueOf(all)).longValueExact();
            left -= shares[i];
        }
        for (int i = 0; left > 0; i = (i + 1) % row.length) {
            if (row[i] > 0) {
                shares[i]++;
                left--;
            }
        }
        return shares[flat];
    }

    long issue(int house, int month, long on) {
        long bill = bill(house, month, on);
        if (bill == NO_AMOUNT) {
            return NO_AMOUNT;
        }
        long more = bill - issued(house, month);
        issues.merge(house + "/" + month, more, Long::sum);
        return more;
    }

    long issued(int house, int month) {
        return isMonthOf(house, month) ? issues.getOrDefault(house + "/" + month, 0L) : NO_AMOUNT;
    }

    long reverse(int house, int month) {
        if (!isMonthOf(house, month)) {
            return NO_AMOUNT;
        }
        Long taken = issues.remove(house + "/" + month);
        return taken == null ? 0 : -taken;
    }
}
