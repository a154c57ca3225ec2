import java.math.BigInteger;
import java.util.ArrayList;
import java.util.Arrays;
import java.util.List;
import java.util.Random;

/** Long runs of calls, wrong ones among them, beside a slow model in whole numbers without bound. */
public final class ModelTest {
    private static final int OBJECTS = 150;
    private static final int CALLS = 512;

    public static void main(String[] args) {
        for (int seed = 0; seed < OBJECTS && Check.allRight(); seed++) {
            compare(seed);
        }
        Check.end();
    }

    private static void compare(int seed) {
        Random random = new Random(seed);
        OutlookOdds object = new OutlookOdds();
        Model model = new Model();
        List<String> calls = new ArrayList<>();
        for (int i = 0; i < CALLS && Check.allRight(); i++) {
            Call call = Call.any(random);
            calls.add(call.toString());
            Check.same("object " + seed + ", call " + i + " " + call, call.on(object), model.answer(call));
        }
        if (!Check.allRight()) {
            System.out.println(calls);
        }
    }

    /** A call by its name with as many numbers as it takes. */
    private record Call(String name, int[] n) {
        private static final String[] NAMES = {
            "age", "age", "age", "age", "young", "rule", "rule", "change", "error", "mark", "mark", "draw",
            "run", "run", "run", "told", "told", "told", "told", "below", "below", "steady", "recovers",
            "rank", "rank", "mean", "mean", "table", "top", "count"
        };

        static Call any(Random r) {
            String name = NAMES[r.nextInt(NAMES.length)];
            int[] n = switch (name) {
                case "age" -> new int[] {near(r, 0, 5), some(r, 100000), some(r, 10000), some(r, 1000), some(r, 1000)};
                case "young" -> new int[] {some(r, 100000)};
                case "rule" -> new int[] {some(r, 2000000000), some(r, 2000000000), some(r, 900)};
                case "change" -> new int[] {some(r, 1000)};
                case "error" -> new int[] {some(r, 50), near(r, 0, 3)};
                case "mark" -> new int[] {some(r, Integer.MAX_VALUE)};
                case "draw" -> new int[] {r.nextInt(), r.nextInt(), r.nextInt()};
                case "run" -> new int[] {near(r, 0, 2), near(r, 1, 20), near(r, 1, 16)};
                case "told" -> new int[] {near(r, 0, 12), near(r, 1, 15), near(r, 0, 3)};
                case "below" -> new int[] {near(r, 1, 15), near(r, 0, 1)};
                case "steady" -> new int[] {near(r, 0, 12)};
                case "recovers" -> new int[] {near(r, 0, 12), near(r, 1, 20)};
                case "rank" -> new int[] {near(r, 1, 15), near(r, 0, 12)};
                case "mean" -> new int[] {near(r, 0, 1), near(r, 0, 1)};
                case "table" -> new int[] {near(r, 0, 18)};
                case "top" -> new int[0];
                default -> new int[] {near(r, 0, 3)};
            };
            return new Call(name, n);
        }

        /** Mostly low..high, now and then one beside it or any. */
        private static int near(Random r, int low, int high) {
            int kind = r.nextInt(40);
            if (kind == 0) {
                return low - 1;
            }
            if (kind == 1) {
                return high + 1;
            }
            return kind == 2 ? r.nextInt() : low + r.nextInt(high - low + 1);
        }

        /** Of 0..most, of all sizes, the ends often. */
        private static int some(Random r, int most) {
            int kind = r.nextInt(12);
            if (kind == 0) {
                return 0;
            }
            if (kind == 1) {
                return most;
            }
            if (kind == 2) {
                return near(r, 0, most - 1);
            }
            int bits = r.nextInt(31);
            return (int) Math.min(most, r.nextInt() & ((1L << bits) - 1));
        }

        String on(OutlookOdds x) {
            try {
                return switch (name) {
                    case "age" -> {
                        x.age(n[0], n[1], n[2], n[3], n[4]);
                        yield "done";
                    }
                    case "error" -> {
                        x.error(n[0], n[1]);
                        yield "done";
                    }
                    default -> "" + valueOn(x);
                };
            } catch (RuntimeException e) {
                return e.getClass().getSimpleName();
            }
        }

        private long valueOn(OutlookOdds x) {
            return switch (name) {
                case "young" -> x.young(n[0]);
                case "rule" -> x.rule(n[0], n[1], n[2]);
                case "change" -> x.change(n[0]);
                case "mark" -> x.mark(n[0]);
                case "draw" -> x.draw(n[0], n[1], n[2]);
                case "run" -> x.run(n[0], n[1], n[2]);
                case "told" -> x.told(n[0], n[1], n[2]);
                case "below" -> x.below(n[0], n[1]);
                case "steady" -> x.steady(n[0]);
                case "recovers" -> x.recovers(n[0], n[1]);
                case "rank" -> x.rank(n[0], n[1]);
                case "mean" -> x.mean(n[0], n[1]);
                case "table" -> x.table(n[0]);
                case "top" -> x.top();
                default -> x.count(n[0]);
            };
        }

        @Override
        public String toString() {
            return name + Arrays.toString(n);
        }
    }

    /** The document once more, in other words: every run is a list of seeds, each a list of years. */
    private static final class Model {
        private static final String PLACE = "IndexOutOfBoundsException";
        private static final String NUMBER = "IllegalArgumentException";
        private static final String STATE = "IllegalStateException";

        /** MASS, CAUGHT, CATCH, SEEN. */
        private record Year(BigInteger... told) {
        }

        private final int[][] ages = new int[6][4];
        private final List<int[]> rules = new ArrayList<>();
        private int young = 0;
        private int change = 1000;
        private int spread = 0;
        private int delay = 0;
        private int mark = 0;
        private List<List<Year>> story = null;
        private int[] latest = {0, 0, 0};
        private int runs = 0;

        String answer(Call call) {
            int[] n = call.n();
            return switch (call.name()) {
                case "age" -> setAge(n);
                case "young" -> out(n[0], 0, 100000) ? NUMBER : "" + swapYoung(n[0]);
                case "rule" -> addRule(n);
                case "change" -> out(n[0], 0, 1000) ? NUMBER : "" + swapChange(n[0]);
                case "error" -> setError(n);
                case "mark" -> n[0] < 0 ? NUMBER : "" + swapMark(n[0]);
                case "draw" -> "" + drawn(n[0], n[1], n[2]);
                case "run" -> doRun(n);
                case "count" -> out(n[0], 0, 3) ? "-1" : "" + new int[] {rules.size(), latest[1], latest[2], runs}[n[0]];
                default -> story == null ? STATE : asked(call.name(), n);
            };
        }

        private String asked(String name, int[] n) {
            int years = latest[1];
            int seeds = latest[2];
            return switch (name) {
                case "told" -> out(n[0], 0, seeds - 1) || out(n[1], 1, years) || out(n[2], 0, 3) ? PLACE
                    : "" + story.get(n[0]).get(n[1] - 1).told()[n[2]];
                case "below" -> out(n[0], 1, years) || out(n[1], 0, 1) ? PLACE
                    : fraction(BigInteger.valueOf(masses(n[0]).stream().filter(this::isLow).count()), seeds, n[1]);
                case "steady" -> out(n[0], 0, seeds - 1) ? PLACE : "" + differences(story.get(n[0]));
                case "recovers" -> out(n[0], 0, seeds - 1) ? PLACE : out(n[1], 1, 20) ? NUMBER
                    : "" + recovery(story.get(n[0]), n[1]);
                case "rank" -> out(n[0], 1, years) || out(n[1], 0, seeds - 1) ? PLACE
                    : "" + masses(n[0]).stream().sorted().toList().get(n[1]);
                case "mean" -> out(n[0], 0, 1) || out(n[1], 0, 1) ? PLACE
                    : n[0] == 0 ? fraction(caughtIn(story), years * seeds, n[1])
                    : fraction(masses(years).stream().reduce(BigInteger.ZERO, BigInteger::add), seeds, n[1]);
                case "table" -> out(n[0], 0, 18) ? PLACE : "" + tableAt(n[0]);
                default -> "" + best();
            };
        }

        private static boolean out(int value, int low, int high) {
            return value < low || value > high;
        }

        private String setAge(int[] n) {
            if (out(n[0], 0, 5)) {
                return PLACE;
            }
            if (out(n[1], 0, 100000) || out(n[2], 0, 10000) || out(n[3], 0, 1000) || out(n[4], 0, 1000)) {
                return NUMBER;
            }
            ages[n[0]] = Arrays.copyOfRange(n, 1, 5);
            return "done";
        }

        private int swapYoung(int n) {
            int was = young;
            young = n;
            return was;
        }

        private int swapChange(int n) {
            int was = change;
            change = n;
            return was;
        }

        private int swapMark(int n) {
            int was = mark;
            mark = n;
            return was;
        }

        private String setError(int[] n) {
            if (out(n[0], 0, 50) || out(n[1], 0, 3)) {
                return NUMBER;
            }
            spread = n[0];
            delay = n[1];
            return "done";
        }

        private String addRule(int[] n) {
            if (out(n[0], 0, 2000000000) || out(n[1], 0, 2000000000) || n[0] > n[1] || out(n[2], 0, 900)) {
                return NUMBER;
            }
            if (rules.size() == 6) {
                return STATE;
            }
            rules.add(n);
            return "" + (rules.size() - 1);
        }

        private String doRun(int[] n) {
            if (out(n[0], 0, rules.size() - 1)) {
                return PLACE;
            }
            if (out(n[1], 1, 20) || out(n[2], 1, 16)) {
                return NUMBER;
            }
            latest = n;
            runs++;
            story = simulate(rules.get(n[0])[2]);
            return "" + story.stream().filter(s -> s.stream().anyMatch(y -> isLow(y.told()[0]))).count();
        }

        private boolean isLow(BigInteger mass) {
            return mass.compareTo(BigInteger.valueOf(mark)) < 0;
        }

        private List<BigInteger> masses(int year) {
            return story.stream().map(s -> s.get(year - 1).told()[0]).toList();
        }

        private static BigInteger differences(List<Year> years) {
            BigInteger sum = BigInteger.ZERO;
            for (int i = 0; i + 1 < years.size(); i++) {
                sum = sum.add(years.get(i).told()[1].subtract(years.get(i + 1).told()[1]).abs());
            }
            return sum;
        }

        private int recovery(List<Year> years, int span) {
            for (int first = 0; first + span <= years.size(); first++) {
                if (years.subList(first, first + span).stream().noneMatch(y -> isLow(y.told()[0]))) {
                    return first + 1;
                }
            }
            return -1;
        }

        private static BigInteger caughtIn(List<List<Year>> told) {
            return told.stream().flatMap(List::stream).map(y -> y.told()[1]).reduce(BigInteger.ZERO, BigInteger::add);
        }

        private static String fraction(BigInteger above, int below, int part) {
            BigInteger divisor = above.gcd(BigInteger.valueOf(below));
            return "" + (part == 0 ? above : BigInteger.valueOf(below)).divide(divisor);
        }

        private BigInteger tableAt(int k) {
            return caughtIn(simulate(50 * k));
        }

        private int best() {
            List<BigInteger> all = new ArrayList<>();
            for (int k = 0; k <= 18; k++) {
                all.add(tableAt(k));
            }
            return all.indexOf(all.stream().max(BigInteger::compareTo).orElseThrow());
        }

        private static int drawn(int seed, int year, int which) {
            BigInteger x = big(seed).multiply(big(31)).add(big(year).multiply(big(7))).add(big(which));
            for (int i = 0; i < 2; i++) {
                x = x.multiply(big(1103515245)).add(big(12345));
            }
            return x.mod(BigInteger.TWO.pow(32)).shiftRight(16).intValueExact();
        }

        private static BigInteger big(long n) {
            return BigInteger.valueOf(n);
        }

        private static BigInteger parts(BigInteger whole, BigInteger times, BigInteger by) {
            BigInteger[] both = whole.multiply(times).divideAndRemainder(by);
            return both[1].signum() < 0 ? both[0].subtract(BigInteger.ONE) : both[0];
        }

        private List<List<Year>> simulate(int rate) {
            List<List<Year>> all = new ArrayList<>();
            for (int seed = 0; seed < latest[2]; seed++) {
                all.add(simulateSeed(seed, rate));
            }
            return all;
        }

        private List<Year> simulateSeed(int seed, int rate) {
            List<Year> years = new ArrayList<>();
            BigInteger[] fish = new BigInteger[6];
            for (int a = 0; a < 6; a++) {
                fish[a] = big(ages[a][0]);
            }
            for (int year = 1; year <= latest[1]; year++) {
                BigInteger mass = BigInteger.ZERO;
                BigInteger total = BigInteger.ZERO;
                for (int a = 0; a < 6; a++) {
                    BigInteger weight = fish[a].multiply(big(ages[a][1]));
                    mass = mass.add(parts(weight, big(ages[a][2]), big(1000)));
                    total = total.add(weight);
                }
                BigInteger past = year == 1 || delay == 0 ? mass : years.get(Math.max(0, year - delay - 1)).told()[0];
                int e = drawn(seed, year, 1) % (2 * spread + 1) - spread;
                BigInteger seen = parts(past, big(100 + e), big(100));
                BigInteger allowed = parts(total, allowedRate(seen, rate), big(1000));
                if (year > 1 && change < 1000) {
                    BigInteger c = years.get(year - 2).told()[2];
                    BigInteger m = parts(c, big(change), big(1000));
                    allowed = allowed.min(c.add(m)).max(c.subtract(m));
                }
                allowed = allowed.min(total);
                BigInteger caught = BigInteger.ZERO;
                BigInteger[] older = new BigInteger[7];
                for (int a = 0; a < 6; a++) {
                    BigInteger taken = total.signum() == 0 ? BigInteger.ZERO : parts(fish[a], allowed, total);
                    caught = caught.add(taken.multiply(big(ages[a][1])));
                    BigInteger left = fish[a].subtract(taken);
                    older[a + 1] = left.subtract(parts(left, big(ages[a][3]), big(1000)));
                }
                years.add(new Year(mass, caught, allowed, seen));
                older[0] = parts(big(young), big(50 + drawn(seed, year, 0) % 101), big(100));
                older[5] = older[5].add(older[6]);
                fish = Arrays.copyOf(older, 6);
            }
            return years;
        }

        private BigInteger allowedRate(BigInteger mass, int rate) {
            BigInteger low = big(rules.get(latest[0])[0]);
            BigInteger high = big(rules.get(latest[0])[1]);
            if (mass.compareTo(low) < 0) {
                return BigInteger.ZERO;
            }
            return mass.compareTo(high) >= 0 ? big(rate) : parts(big(rate), mass.subtract(low), high.subtract(low));
        }
    }
}
