/**
 * Fees of houses by rules told as texts. ../shared/DOC.md numbers what each call promises.
 *
 * <p>Every row is made once, with the object, and used again by each call.
 */
public final class FeeRules {
    public static final int NONE = -1;

    // This is Long.MIN_VALUE; the rules of the language list functions of Long, but no constants.
    private static final long NO_AMOUNT = -9223372036854775808L;

    private static final int HOUSES = 4;
    private static final int FLATS = 6;
    private static final int MOST_WEIGHT = 1000;
    private static final int KINDS = 6;
    private static final int DAYS = 3600;
    private static final int MONTH_DAYS = 30;
    private static final int MONTHS = 120;
    private static final int FACTS = 24;
    private static final long MOST_MEASURE = 1000000L;
    private static final int EDITIONS = 6;
    private static final int RELIEFS = 8;
    private static final long MOST_CAP = 1000000000000L;
    private static final int TEXT_BYTES = 600;
    private static final int NUMBER_DIGITS = 6;
    private static final int READ_REFUSED = -1000;

    // A step takes nine bytes at least: "step 1 2" and a blank. So no text tells more of them.
    private static final int EDITION_STEPS = TEXT_BYTES / 9;

    // A kind of 1 digit, a measure of at most 7, cents of at most 12, two blanks and a byte 10.
    private static final int LINE_BYTES = 23;

    private static final int LACKS_NOTHING = 0;
    private static final int LACKS_RULE = 1;
    private static final int LACKS_FEE = 2;

    private final Houses houses;
    private final Facts facts;
    private final Text text;
    private final Editions editions;
    private final RuleReader reader;
    private final Reliefs reliefs;
    private final Row monthCaps;
    private final HeldLines held;

    public FeeRules() {
        houses = new Houses();
        facts = new Facts();
        text = new Text();
        editions = new Editions();
        reader = new RuleReader(text, editions);
        reliefs = new Reliefs();
        monthCaps = new Row(MONTHS);
        for (int month = 0; month < MONTHS; month++) {
            monthCaps.set(month, NONE);
        }
        held = new HeldLines();
    }

    public int house(int flats) {
        if (flats < 1 || flats > FLATS) {
            return NONE;
        }
        return houses.add(flats);
    }

    public int fact(int house, int kind, long day, long v, long known) {
        if (!houses.has(house) || !isKind(kind) || !isDay(day) || !isDay(known)) {
            return NONE;
        }
        if (v < 0 || v > MOST_MEASURE) {
            return NONE;
        }
        return facts.add(house, kind, day, v, known);
    }

    public boolean unit(int u) {
        return u >= 0 && u <= 255 && text.add(u);
    }

    public int read(long from, long known) {
        int answer = READ_REFUSED;
        if (isDay(from) && isDay(known) && !editions.isFull()) {
            answer = reader.readRules();
            if (answer >= 0) {
                editions.keepDraft(from, known, answer);
            }
        }
        text.clear();
        return answer;
    }

    public int edition(int k, int what) {
        if (!editions.has(k)) {
            return NONE;
        }
        switch (what) {
            case 0:
                return (int) editions.actsFrom(k);
            case 1:
                return (int) editions.knownFrom(k);
            case 2:
                return (int) editions.ruleCount(k);
            default:
                return NONE;
        }
    }

    public boolean cap(int month, long cents) {
        if (!isMonth(month) || cents < 0 || cents > MOST_CAP) {
            return false;
        }
        monthCaps.set(month, cents);
        return true;
    }

    public boolean relief(int house, int kind, long from, long to) {
        if (!houses.has(house) || !isKind(kind) || !isDay(from) || !isDay(to) || from > to) {
            return false;
        }
        return reliefs.add(house, kind, from, to);
    }

    public boolean weight(int house, int flat, int w) {
        if (!houses.hasFlat(house, flat) || w < 0 || w > MOST_WEIGHT) {
            return false;
        }
        houses.setWeight(house, flat, w);
        return true;
    }

    public long bill(int house, int month, long on) {
        return billOf(house, month, on);
    }

    public int walk(int house, int month, long on) {
        if (!isAskable(house, month, on)) {
            return NONE;
        }
        held.clear();
        for (int fact = 0; fact < facts.count(); fact++) {
            if (facts.isOf(fact, house, month, on)) {
                hold(fact, on);
            }
        }
        return held.count();
    }

    public long line(int k, int what) {
        if (!held.has(k)) {
            return NONE;
        }
        switch (what) {
            case 0:
                return held.factOf(k);
            case 1:
                return held.centsOf(k);
            case 2:
                return held.editionOf(k);
            case 3:
                return held.lackOf(k);
            default:
                return NONE;
        }
    }

    public int open(int k) {
        return held.openFact(k);
    }

    public int write(int i) {
        return held.printedByte(i);
    }

    public long flat(int house, int month, long on, int flat) {
        if (!houses.hasFlat(house, flat)) {
            return NO_AMOUNT;
        }
        long cents = billOf(house, month, on);
        if (cents == NO_AMOUNT) {
            return NO_AMOUNT;
        }
        return houses.shareOf(house, flat, cents);
    }

    public long issue(int house, int month, long on) {
        long cents = billOf(house, month, on);
        if (cents == NO_AMOUNT) {
            return NO_AMOUNT;
        }
        long difference = cents - houses.issuedOf(house, month);
        houses.setIssued(house, month, cents);
        return difference;
    }

    public long issued(int house, int month) {
        if (!houses.has(house) || !isMonth(month)) {
            return NO_AMOUNT;
        }
        return houses.issuedOf(house, month);
    }

    public long reverse(int house, int month) {
        if (!houses.has(house) || !isMonth(month)) {
            return NO_AMOUNT;
        }
        long taken = houses.issuedOf(house, month);
        houses.setIssued(house, month, 0);
        return -taken;
    }

    private static boolean isKind(int kind) {
        return kind >= 0 && kind < KINDS;
    }

    private static boolean isDay(long day) {
        return day >= 0 && day < DAYS;
    }

    private static boolean isMonth(int month) {
        return month >= 0 && month < MONTHS;
    }

    private boolean isAskable(int house, int month, long on) {
        return houses.has(house) && isMonth(month) && isDay(on);
    }

    private long billOf(int house, int month, long on) {
        if (!isAskable(house, month, on)) {
            return NO_AMOUNT;
        }
        long sum = 0;
        for (int fact = 0; fact < facts.count(); fact++) {
            if (facts.isOf(fact, house, month, on)) {
                long cents = centsOf(fact, editionOf(fact, on));
                if (cents == NONE) {
                    return NO_AMOUNT;
                }
                sum += cents;
            }
        }
        long most = monthCaps.get(month);
        return most != NONE && sum > most ? most : sum;
    }

    private void hold(int fact, long on) {
        int edition = editionOf(fact, on);
        long cents = centsOf(fact, edition);
        held.add(fact, cents, edition, lackOf(fact, edition, cents));
        held.print(facts.kindOf(fact), facts.measureOf(fact), cents);
    }

    private boolean isRelieved(int fact) {
        return reliefs.relieve(facts.houseOf(fact), facts.kindOf(fact), facts.dayOf(fact));
    }

    /** The edition of a fact's line, NONE when it is relieved or has none. */
    private int editionOf(int fact, long on) {
        if (isRelieved(fact)) {
            return NONE;
        }
        return editions.latest(facts.dayOf(fact), on);
    }

    /** The cents of a fact's line by its edition, NONE when it is open. */
    private long centsOf(int fact, int edition) {
        if (isRelieved(fact)) {
            return 0;
        }
        return editions.feeOf(edition, facts.kindOf(fact), facts.measureOf(fact));
    }

    /** What a fact's line by its edition lacks, where its cents are NONE when it is open. */
    private int lackOf(int fact, int edition, long cents) {
        if (cents != NONE) {
            return LACKS_NOTHING;
        }
        return editions.hasRule(edition, facts.kindOf(fact)) ? LACKS_FEE : LACKS_RULE;
    }

    /** A row of numbers: the one place where an index meets an array. */
    private static final class Row {
        private final long[] cells;

        Row(int size) {
            cells = new long[size < 0 ? 0 : size];
        }

        long get(int i) {
            return i >= 0 && i < cells.length ? cells[i] : 0;
        }

        void set(int i, long value) {
            if (i >= 0 && i < cells.length) {
                cells[i] = value;
            }
        }
    }

    /** The houses, the weights of their flats, and what was issued of their months. */
    private static final class Houses {
        private final Row flats = new Row(HOUSES);
        private final Row weights = new Row(HOUSES * FLATS);
        private final Row issuedCents = new Row(HOUSES * MONTHS);
        private int count;

        int add(int flatCount) {
            if (count >= HOUSES) {
                return NONE;
            }
            int added = count;
            flats.set(added, flatCount);
            for (int flat = 0; flat < FLATS; flat++) {
                setWeight(added, flat, 1);
            }
            count++;
            return added;
        }

        boolean has(int house) {
            return house >= 0 && house < count;
        }

        boolean hasFlat(int house, int flat) {
            return has(house) && flat >= 0 && flat < flats.get(house);
        }

        void setWeight(int house, int flat, int w) {
            weights.set(house * FLATS + flat, w);
        }

        long weightOf(int house, int flat) {
            return weights.get(house * FLATS + flat);
        }

        /** A flat's share of cents, NO_AMOUNT when all weights are 0. */
        long shareOf(int house, int flat, long cents) {
            long all = 0;
            for (int other = 0; hasFlat(house, other) && other < FLATS; other++) {
                all += weightOf(house, other);
            }
            if (all <= 0) {
                return NO_AMOUNT;
            }
            long left = cents;
            long sharersBefore = 0;
            for (int other = 0; hasFlat(house, other) && other < FLATS; other++) {
                left -= cents * weightOf(house, other) / all;
                if (other < flat && weightOf(house, other) > 0) {
                    sharersBefore++;
                }
            }
            // What is left is less than one cent for each flat with a weight, so one round gives it all.
            long own = weightOf(house, flat);
            long extra = own > 0 && sharersBefore < left ? 1 : 0;
            return cents * own / all + extra;
        }

        long issuedOf(int house, int month) {
            return issuedCents.get(house * MONTHS + month);
        }

        void setIssued(int house, int month, long cents) {
            issuedCents.set(house * MONTHS + month, cents);
        }
    }

    /** The facts, by their numbers. */
    private static final class Facts {
        private final Row houses = new Row(FACTS);
        private final Row kinds = new Row(FACTS);
        private final Row days = new Row(FACTS);
        private final Row measures = new Row(FACTS);
        private final Row knownDays = new Row(FACTS);
        private int count;

        int add(int house, int kind, long day, long measure, long known) {
            if (count >= FACTS) {
                return NONE;
            }
            int added = count;
            houses.set(added, house);
            kinds.set(added, kind);
            days.set(added, day);
            measures.set(added, measure);
            knownDays.set(added, known);
            count++;
            return added;
        }

        int count() {
            return count;
        }

        int houseOf(int fact) {
            return (int) houses.get(fact);
        }

        int kindOf(int fact) {
            return (int) kinds.get(fact);
        }

        long dayOf(int fact) {
            return days.get(fact);
        }

        long measureOf(int fact) {
            return measures.get(fact);
        }

        /** Whether a fact is of a house and a month and known on a day. */
        boolean isOf(int fact, int house, int month, long on) {
            return houses.get(fact) == house
                && days.get(fact) / MONTH_DAYS == month
                && knownDays.get(fact) <= on;
        }
    }

    /** The reliefs of houses and kinds. */
    private static final class Reliefs {
        private final Row houses = new Row(RELIEFS);
        private final Row kinds = new Row(RELIEFS);
        private final Row firstDays = new Row(RELIEFS);
        private final Row lastDays = new Row(RELIEFS);
        private int count;

        boolean add(int house, int kind, long from, long to) {
            if (count >= RELIEFS) {
                return false;
            }
            houses.set(count, house);
            kinds.set(count, kind);
            firstDays.set(count, from);
            lastDays.set(count, to);
            count++;
            return true;
        }

        boolean relieve(int house, int kind, long day) {
            for (int i = 0; i < count; i++) {
                if (houses.get(i) == house && kinds.get(i) == kind
                        && firstDays.get(i) <= day && day <= lastDays.get(i)) {
                    return true;
                }
            }
            return false;
        }
    }

    /** The bytes that were told, and a mark that goes over their words. */
    private static final class Text {
        private final Row bytes = new Row(TEXT_BYTES);
        private int length;
        private int wordStart;
        private int wordEnd;
        private int wordNumber;

        boolean add(int told) {
            if (length >= TEXT_BYTES) {
                return false;
            }
            bytes.set(length, told);
            length++;
            return true;
        }

        void clear() {
            length = 0;
        }

        void toFirstWord() {
            wordEnd = 0;
            toNextWord();
            wordNumber = 0;
        }

        void toNextWord() {
            wordStart = wordEnd;
            while (wordStart < length && isBlank(bytes.get(wordStart))) {
                wordStart++;
            }
            wordEnd = wordStart;
            while (wordEnd < length && !isBlank(bytes.get(wordEnd))) {
                wordEnd++;
            }
            wordNumber++;
        }

        private static boolean isBlank(long told) {
            return told == ' ' || told == '\n';
        }

        boolean hasWord() {
            return wordStart < wordEnd;
        }

        /** The number of the word at the mark; how many words there are, behind the last one. */
        int numberOfWord() {
            return wordNumber;
        }

        boolean isWord(String word) {
            if (word == null || wordEnd - wordStart != word.length()) {
                return false;
            }
            for (int i = 0; i < word.length(); i++) {
                if (bytes.get(wordStart + i) != word.charAt(i)) {
                    return false;
                }
            }
            return true;
        }

        /** The word at the mark as a number, NONE when it is not one. */
        long asNumber() {
            if (!hasWord() || wordEnd - wordStart > NUMBER_DIGITS) {
                return NONE;
            }
            long number = 0;
            for (int i = wordStart; i < wordEnd; i++) {
                long digit = bytes.get(i) - '0';
                if (digit < 0 || digit > 9) {
                    return NONE;
                }
                number = number * 10 + digit;
            }
            return number;
        }
    }

    /**
     * The editions and their rules. Behind the last one stands a draft, which a reader tells rules;
     * it counts only when it is kept, so that a text that is refused changes nothing.
     */
    private static final class Editions {
        private final Row fromDays = new Row(EDITIONS);
        private final Row knownDays = new Row(EDITIONS);
        private final Row ruleCounts = new Row(EDITIONS);
        // A cell for each edition and kind; NONE in pers says that there is no rule of the kind.
        private final Row pers = new Row(EDITIONS * KINDS);
        private final Row prices = new Row(EDITIONS * KINDS);
        private final Row caps = new Row(EDITIONS * KINDS);
        private final Row firstSteps = new Row(EDITIONS * KINDS);
        private final Row stepCounts = new Row(EDITIONS * KINDS);
        // The steps of each edition's rules, one rule's behind another's.
        private final Row stepStarts = new Row(EDITIONS * EDITION_STEPS);
        private final Row stepPrices = new Row(EDITIONS * EDITION_STEPS);
        private int count;
        private int draftSteps;

        boolean isFull() {
            return count >= EDITIONS;
        }

        boolean has(int edition) {
            return edition >= 0 && edition < count;
        }

        long actsFrom(int edition) {
            return fromDays.get(edition);
        }

        long knownFrom(int edition) {
            return knownDays.get(edition);
        }

        long ruleCount(int edition) {
            return ruleCounts.get(edition);
        }

        private static int cellOf(int edition, int kind) {
            return edition * KINDS + kind;
        }

        void startDraft() {
            draftSteps = 0;
            for (int kind = 0; kind < KINDS; kind++) {
                pers.set(cellOf(count, kind), NONE);
            }
        }

        boolean draftHasRule(int kind) {
            return pers.get(cellOf(count, kind)) != NONE;
        }

        void tellRule(int kind, long per, long price) {
            int cell = cellOf(count, kind);
            pers.set(cell, per);
            prices.set(cell, price);
            caps.set(cell, NONE);
            firstSteps.set(cell, count * EDITION_STEPS + draftSteps);
            stepCounts.set(cell, 0);
        }

        void tellStep(int kind, long start, long price) {
            int cell = cellOf(count, kind);
            int step = count * EDITION_STEPS + draftSteps;
            stepStarts.set(step, start);
            stepPrices.set(step, price);
            stepCounts.set(cell, stepCounts.get(cell) + 1);
            draftSteps++;
        }

        void tellCap(int kind, long most) {
            caps.set(cellOf(count, kind), most);
        }

        void keepDraft(long from, long known, int rules) {
            fromDays.set(count, from);
            knownDays.set(count, known);
            ruleCounts.set(count, rules);
            count++;
        }

        /** The edition of the latest day, of those that act on a day and are known on another. */
        int latest(long day, long on) {
            int best = NONE;
            for (int edition = 0; edition < count; edition++) {
                boolean counts = knownDays.get(edition) <= on && fromDays.get(edition) <= day;
                if (counts && (best == NONE || fromDays.get(edition) >= fromDays.get(best))) {
                    best = edition;
                }
            }
            return best;
        }

        boolean hasRule(int edition, int kind) {
            return has(edition) && pers.get(cellOf(edition, kind)) != NONE;
        }

        /** The fee of a measure, NONE when there is no rule or the fee fails. */
        long feeOf(int edition, int kind, long measure) {
            if (!hasRule(edition, kind)) {
                return NONE;
            }
            int cell = cellOf(edition, kind);
            long per = pers.get(cell);
            if (per <= 0) {
                return NONE;
            }
            long fee = priceOf(cell, measure) / per;
            long most = caps.get(cell);
            return most != NONE && fee > most ? most : fee;
        }

        /** What all units of a measure cost by their steps. */
        private long priceOf(int cell, long measure) {
            long sum = 0;
            long start = 0;
            long price = prices.get(cell);
            long first = firstSteps.get(cell);
            long steps = stepCounts.get(cell);
            for (int i = 0; i < EDITION_STEPS && i < steps; i++) {
                int step = (int) first + i;
                long next = stepStarts.get(step);
                if (next >= measure) {
                    break;
                }
                sum += (next - start) * price;
                start = next;
                price = stepPrices.get(step);
            }
            return sum + (measure - start) * price;
        }
    }

    /** Reads the words of a text as the rules of an edition's draft. */
    private static final class RuleReader {
        private final Text text;
        private final Editions editions;

        RuleReader(Text text, Editions editions) {
            this.text = text;
            this.editions = editions;
        }

        /** How many rules the text tells, or -1 less the number of the word that cannot stand. */
        int readRules() {
            editions.startDraft();
            text.toFirstWord();
            // One rule more than there are kinds: the word that cannot stand is found within it.
            for (int rules = 0; rules <= KINDS; rules++) {
                if (!text.hasWord()) {
                    return rules;
                }
                if (!takeRule()) {
                    break;
                }
            }
            return -1 - text.numberOfWord();
        }

        // Each of these goes on to the next word only when it can take the one at the mark,
        // so that the mark stands at the first word that cannot stand where it does.

        private boolean takeRule() {
            if (!takeWord("kind")) {
                return false;
            }
            long number = text.asNumber();
            if (number < 0 || number >= KINDS || editions.draftHasRule((int) number)) {
                return false;
            }
            text.toNextWord();
            int kind = (int) number;
            return takePrice(kind) && takeSteps(kind) && takeCap(kind);
        }

        private boolean takePrice(int kind) {
            if (!takeWord("per")) {
                return false;
            }
            long per = takeNumberAbove(NONE);
            if (per == NONE || !takeWord("price")) {
                return false;
            }
            long price = takeNumberAbove(NONE);
            if (price == NONE) {
                return false;
            }
            editions.tellRule(kind, per, price);
            return true;
        }

        private boolean takeSteps(int kind) {
            long before = 0;
            for (int steps = 0; steps < EDITION_STEPS && takeWord("step"); steps++) {
                long start = takeNumberAbove(before);
                if (start == NONE) {
                    return false;
                }
                long price = takeNumberAbove(NONE);
                if (price == NONE) {
                    return false;
                }
                editions.tellStep(kind, start, price);
                before = start;
            }
            return true;
        }

        private boolean takeCap(int kind) {
            if (!takeWord("cap")) {
                return true;
            }
            long most = takeNumberAbove(NONE);
            if (most == NONE) {
                return false;
            }
            editions.tellCap(kind, most);
            return true;
        }

        private boolean takeWord(String word) {
            if (!text.isWord(word)) {
                return false;
            }
            text.toNextWord();
            return true;
        }

        /** Takes a number that is more than another; NONE when there is none. */
        private long takeNumberAbove(long least) {
            long number = text.asNumber();
            if (number <= least) {
                return NONE;
            }
            text.toNextWord();
            return number;
        }
    }

    /** The lines of the last walk, as they were then, and as printed. */
    private static final class HeldLines {
        private final Row facts = new Row(FACTS);
        private final Row cents = new Row(FACTS);
        private final Row editions = new Row(FACTS);
        private final Row lacks = new Row(FACTS);
        private final Row printed = new Row(FACTS * LINE_BYTES);
        private int count;
        private int printedCount;

        void clear() {
            count = 0;
            printedCount = 0;
        }

        void add(int fact, long lineCents, int edition, int lack) {
            facts.set(count, fact);
            cents.set(count, lineCents);
            editions.set(count, edition);
            lacks.set(count, lack);
            count++;
        }

        int count() {
            return count;
        }

        boolean has(int k) {
            return k >= 0 && k < count;
        }

        long factOf(int k) {
            return facts.get(k);
        }

        long centsOf(int k) {
            return cents.get(k);
        }

        long editionOf(int k) {
            return editions.get(k);
        }

        long lackOf(int k) {
            return lacks.get(k);
        }

        int openFact(int k) {
            int openBefore = 0;
            for (int i = 0; i < count; i++) {
                if (lacks.get(i) != LACKS_NOTHING) {
                    if (openBefore == k) {
                        return (int) facts.get(i);
                    }
                    openBefore++;
                }
            }
            return NONE;
        }

        int printedByte(int i) {
            return i >= 0 && i < printedCount ? (int) printed.get(i) : NONE;
        }

        void print(int kind, long measure, long lineCents) {
            printNumber(kind);
            printSign(' ');
            printNumber(measure);
            printSign(' ');
            if (lineCents == NONE) {
                printSign('?');
            } else {
                printNumber(lineCents);
            }
            printSign('\n');
        }

        private void printNumber(long number) {
            long power = 1;
            for (int digits = 1; digits < 18 && power <= number / 10; digits++) {
                power *= 10;
            }
            for (int digits = 0; digits < 18 && power > 0; digits++) {
                printSign((int) (number / power % 10) + '0');
                power /= 10;
            }
        }

        private void printSign(int sign) {
            printed.set(printedCount, sign);
            printedCount++;
        }
    }
}
