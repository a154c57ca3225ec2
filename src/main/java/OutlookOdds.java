/**
 * Outlooks for a stock of fish: runs of a catch rule over years and seeds, and what is asked of them.
 *
 * All rows are made with the object and used again, so that no call makes an object but the one it throws.
 */
public final class OutlookOdds {
    public static final int NONE = -1;

    private static final int AGES = 6;
    private static final int MOST_RULES = 6;
    private static final int MOST_YEARS = 20;
    private static final int MOST_SEEDS = 16;

    private static final int MOST_FISH = 100000;
    private static final int MOST_WEIGHT = 10000;
    private static final int MOST_LIMIT = 2000000000;
    private static final int MOST_MARK = 2147483647;
    private static final int MOST_RATE = 900;
    private static final int MOST_SPREAD = 50;
    private static final int MOST_DELAY = 3;
    private static final int THOUSAND = 1000;
    private static final int HUNDRED = 100;

    private static final int RATES_IN_TABLE = 19;
    private static final int RATE_STEP = 50;
    private static final int PARTS = 2;
    private static final int MEANS = 2;

    private static final int WHICH_YOUNG = 0;
    private static final int WHICH_ERROR = 1;

    private static final int MASS = 0;
    private static final int CAUGHT = 1;
    private static final int CATCH = 2;
    private static final int SEEN = 3;
    private static final int WHATS = 4;

    private static final int MOST_DIVISOR_STEPS = 200;

    private final Stock stock;
    private final int[] lows;
    private final int[] highs;
    private final int[] rates;
    private int rules;
    private int youngFish;
    private int mostChange;
    private int errorSpread;
    private int seeingDelay;
    private int massMark;

    private final Story story;
    /** table() runs into a story of its own, since what the RUN told stays told. */
    private final Story trial;
    private final long[] ordered;
    private int ranRule;
    private int years;
    private int seeds;
    private int runs;

    public OutlookOdds() {
        stock = new Stock();
        lows = new int[MOST_RULES];
        highs = new int[MOST_RULES];
        rates = new int[MOST_RULES];
        mostChange = THOUSAND;
        story = new Story();
        trial = new Story();
        ordered = new long[MOST_SEEDS];
    }

    public void age(int age, int number, int weight, int ripe, int die)
            throws IndexOutOfBoundsException, IllegalArgumentException {
        requirePlace(age, 0, AGES - 1);
        requireNumber(number, 0, MOST_FISH);
        requireNumber(weight, 0, MOST_WEIGHT);
        requireNumber(ripe, 0, THOUSAND);
        requireNumber(die, 0, THOUSAND);
        stock.setAge(age, number, weight, ripe, die);
    }

    public int young(int n) throws IllegalArgumentException {
        requireNumber(n, 0, MOST_FISH);
        int was = youngFish;
        youngFish = n;
        return was;
    }

    public int rule(int low, int high, int rate) throws IllegalArgumentException, IllegalStateException {
        requireNumber(high, 0, MOST_LIMIT);
        requireNumber(low, 0, high);
        requireNumber(rate, 0, MOST_RATE);
        if (rules >= MOST_RULES) {
            throw new IllegalStateException("there is no room for another rule");
        }
        int added = rules;
        lows[added] = low;
        highs[added] = high;
        rates[added] = rate;
        rules = added + 1;
        return added;
    }

    public int change(int most) throws IllegalArgumentException {
        requireNumber(most, 0, THOUSAND);
        int was = mostChange;
        mostChange = most;
        return was;
    }

    public void error(int spread, int delay) throws IllegalArgumentException {
        requireNumber(spread, 0, MOST_SPREAD);
        requireNumber(delay, 0, MOST_DELAY);
        errorSpread = spread;
        seeingDelay = delay;
    }

    public int mark(int v) throws IllegalArgumentException {
        requireNumber(v, 0, MOST_MARK);
        int was = massMark;
        massMark = v;
        return was;
    }

    public int draw(int seed, int year, int which) {
        int x = 31 * seed + 7 * year + which;
        x = x * 1103515245 + 12345;
        x = x * 1103515245 + 12345;
        return x >>> 16;
    }

    public int run(int rule, int years, int seeds) throws IndexOutOfBoundsException, IllegalArgumentException {
        requirePlace(rule, 0, rules - 1);
        requireNumber(years, 1, MOST_YEARS);
        requireNumber(seeds, 1, MOST_SEEDS);
        ranRule = rule;
        this.years = years;
        this.seeds = seeds;
        runs++;
        runAllSeeds(story, rates[rule]);
        return seedsEverBelowMark();
    }

    public long told(int seed, int year, int what) throws IllegalStateException, IndexOutOfBoundsException {
        requireRun();
        requirePlace(seed, 0, seeds - 1);
        requirePlace(year, 1, years);
        requirePlace(what, 0, WHATS - 1);
        return story.get(what, seed, year);
    }

    public int below(int year, int part) throws IllegalStateException, IndexOutOfBoundsException {
        requireRun();
        requirePlace(year, 1, years);
        requirePlace(part, 0, PARTS - 1);
        int low = 0;
        for (int seed = 0; seed < seeds; seed++) {
            if (isBelowMark(seed, year)) {
                low++;
            }
        }
        return (int) partOfFraction(low, seeds, part);
    }

    public long steady(int seed) throws IllegalStateException, IndexOutOfBoundsException {
        requireRun();
        requirePlace(seed, 0, seeds - 1);
        long sum = 0;
        for (int year = 2; year <= years; year++) {
            sum += Math.abs(story.get(CAUGHT, seed, year) - story.get(CAUGHT, seed, year - 1));
        }
        return sum;
    }

    public int recovers(int seed, int span)
            throws IllegalStateException, IndexOutOfBoundsException, IllegalArgumentException {
        requireRun();
        requirePlace(seed, 0, seeds - 1);
        requireNumber(span, 1, MOST_YEARS);
        int goodYears = 0;
        for (int year = 1; year <= years; year++) {
            goodYears = isBelowMark(seed, year) ? 0 : goodYears + 1;
            if (goodYears == span) {
                return year - span + 1;
            }
        }
        return NONE;
    }

    public long rank(int year, int k) throws IllegalStateException, IndexOutOfBoundsException {
        requireRun();
        requirePlace(year, 1, years);
        requirePlace(k, 0, seeds - 1);
        for (int seed = 0; seed < seeds; seed++) {
            putInOrder(seed, story.get(MASS, seed, year));
        }
        return ordered[k];
    }

    public long mean(int what, int part) throws IllegalStateException, IndexOutOfBoundsException {
        requireRun();
        requirePlace(what, 0, MEANS - 1);
        requirePlace(part, 0, PARTS - 1);
        if (what == 0) {
            return partOfFraction(sumOf(story, CAUGHT, 1), seeds * years, part);
        }
        return partOfFraction(sumOf(story, MASS, years), seeds, part);
    }

    public long table(int k) throws IllegalStateException, IndexOutOfBoundsException {
        requireRun();
        requirePlace(k, 0, RATES_IN_TABLE - 1);
        return caughtAtRate(RATE_STEP * k);
    }

    public int top() throws IllegalStateException {
        requireRun();
        int best = 0;
        long most = caughtAtRate(0);
        for (int k = 1; k < RATES_IN_TABLE; k++) {
            long caught = caughtAtRate(RATE_STEP * k);
            if (caught > most) {
                best = k;
                most = caught;
            }
        }
        return best;
    }

    public int count(int what) {
        switch (what) {
            case 0:
                return rules;
            case 1:
                return years;
            case 2:
                return seeds;
            case 3:
                return runs;
            default:
                return NONE;
        }
    }

    private void runAllSeeds(Story into, int rate) {
        for (int seed = 0; seed < seeds; seed++) {
            stock.begin();
            for (int year = 1; year <= years; year++) {
                runYear(into, rate, seed, year);
            }
        }
    }

    private void runYear(Story into, int rate, int seed, int year) {
        into.put(MASS, seed, year, stock.ripeMass());
        long seen = massSeen(into, seed, year);
        into.put(SEEN, seed, year, seen);
        long total = stock.totalMass();
        long wanted = total * rateAllowed(seen, rate) / THOUSAND;
        long allowed = Math.min(limitChange(into, wanted, seed, year), total);
        into.put(CATCH, seed, year, allowed);
        into.put(CAUGHT, seed, year, stock.takeOut(allowed, total));
        stock.loseDead();
        stock.growOlder(youngBorn(seed, year));
    }

    private long massSeen(Story told, int seed, int year) {
        int yearSeen = Math.max(1, year - seeingDelay);
        int percent = HUNDRED - errorSpread + draw(seed, year, WHICH_ERROR) % (2 * errorSpread + 1);
        return told.get(MASS, seed, yearSeen) * percent / HUNDRED;
    }

    /** The rate is an argument, not the rule's own, since table() puts others in its place. */
    private long rateAllowed(long mass, int rate) {
        long low = lows[ranRule];
        long high = highs[ranRule];
        if (mass < low) {
            return 0;
        }
        // A rule whose low is its high ends here or above: the divisor below is 1 at least.
        if (mass >= high) {
            return rate;
        }
        return rate * (mass - low) / (high - low);
    }

    private long limitChange(Story told, long wanted, int seed, int year) {
        if (year < 2 || mostChange >= THOUSAND) {
            return wanted;
        }
        long before = told.get(CATCH, seed, year - 1);
        long most = before * mostChange / THOUSAND;
        return Math.max(before - most, Math.min(before + most, wanted));
    }

    private long youngBorn(int seed, int year) {
        return (long) youngFish * (50 + draw(seed, year, WHICH_YOUNG) % 101) / HUNDRED;
    }

    private long caughtAtRate(int rate) {
        runAllSeeds(trial, rate);
        return sumOf(trial, CAUGHT, 1);
    }

    private long sumOf(Story told, int what, int firstYear) {
        long sum = 0;
        for (int seed = 0; seed < seeds; seed++) {
            for (int year = firstYear; year <= years; year++) {
                sum += told.get(what, seed, year);
            }
        }
        return sum;
    }

    private boolean isBelowMark(int seed, int year) {
        return story.get(MASS, seed, year) < massMark;
    }

    private int seedsEverBelowMark() {
        int fallen = 0;
        for (int seed = 0; seed < seeds; seed++) {
            if (isEverBelowMark(seed)) {
                fallen++;
            }
        }
        return fallen;
    }

    private boolean isEverBelowMark(int seed) {
        for (int year = 1; year <= years; year++) {
            if (isBelowMark(seed, year)) {
                return true;
            }
        }
        return false;
    }

    /** Puts a mass among those before it, which are in order already. */
    private void putInOrder(int before, long mass) {
        int place = before;
        while (place > 0 && ordered[place - 1] > mass) {
            ordered[place] = ordered[place - 1];
            place--;
        }
        ordered[place] = mass;
    }

    private static long partOfFraction(long above, long below, int part) {
        long divisor = Math.max(1, commonDivisor(above, below));
        return (part == 0 ? above : below) / divisor;
    }

    private static long commonDivisor(long a, long b) {
        long larger = a;
        long smaller = b;
        for (int step = 0; step < MOST_DIVISOR_STEPS && smaller != 0; step++) {
            long rest = larger % smaller;
            larger = smaller;
            smaller = rest;
        }
        return larger;
    }

    private void requireRun() {
        if (runs == 0) {
            throw new IllegalStateException("there was no run");
        }
    }

    private static void requirePlace(int place, int first, int last) {
        if (place < first || place > last) {
            throw new IndexOutOfBoundsException("there is no such place");
        }
    }

    private static void requireNumber(int number, int least, int most) {
        if (number < least || number > most) {
            throw new IllegalArgumentException("a number is not as said");
        }
    }

    /** What the ages have, and the fish of the seed that is being run. */
    private static final class Stock {
        private final int[] numbers = new int[AGES];
        private final int[] weights = new int[AGES];
        private final int[] ripes = new int[AGES];
        private final int[] dies = new int[AGES];
        /** Apart from numbers, since every seed begins with these as they are. */
        private final long[] living = new long[AGES];

        void setAge(int age, int number, int weight, int ripe, int die) {
            numbers[age] = number;
            weights[age] = weight;
            ripes[age] = ripe;
            dies[age] = die;
        }

        void begin() {
            for (int age = 0; age < AGES; age++) {
                living[age] = numbers[age];
            }
        }

        long ripeMass() {
            long mass = 0;
            for (int age = 0; age < AGES; age++) {
                mass += living[age] * weights[age] * ripes[age] / THOUSAND;
            }
            return mass;
        }

        long totalMass() {
            long mass = 0;
            for (int age = 0; age < AGES; age++) {
                mass += living[age] * weights[age];
            }
            return mass;
        }

        long takeOut(long allowed, long total) {
            if (total <= 0) {
                return 0;
            }
            long caught = 0;
            for (int age = 0; age < AGES; age++) {
                long taken = living[age] * allowed / total;
                living[age] -= taken;
                caught += taken * weights[age];
            }
            return caught;
        }

        void loseDead() {
            for (int age = 0; age < AGES; age++) {
                living[age] -= living[age] * dies[age] / THOUSAND;
            }
        }

        void growOlder(long born) {
            int oldest = AGES - 1;
            living[oldest] += living[oldest - 1];
            for (int age = oldest - 1; age > 0; age--) {
                living[age] = living[age - 1];
            }
            living[0] = born;
        }
    }

    /** What a run tells of each seed in each year. */
    private static final class Story {
        private final long[][] rows = new long[WHATS][MOST_SEEDS * MOST_YEARS];

        long get(int what, int seed, int year) {
            return rows[what][seed * MOST_YEARS + year - 1];
        }

        void put(int what, int seed, int year, long value) {
            rows[what][seed * MOST_YEARS + year - 1] = value;
        }
    }
}
