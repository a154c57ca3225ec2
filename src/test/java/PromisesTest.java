import java.util.Arrays;

/** Each promise by hand-worked answers: ordinary inputs, the edges that the document names, wrong inputs. */
public final class PromisesTest {
    private static final int[] OUTSIDE = {Integer.MIN_VALUE, -1, Integer.MAX_VALUE};

    public static void main(String[] args) {
        newObject();
        age();
        young();
        rule();
        ruleAllows();
        change();
        error();
        delay();
        mark();
        draw();
        run();
        yearOfASeed();
        caughtIsNotTheCatch();
        lastFish();
        greatestNumbers();
        told();
        below();
        steady();
        recovers();
        rank();
        mean();
        table();
        top();
        count();
        Check.end();
    }

    /** Fish of age 0 that are ripe at once, never die and weigh 1 at every age: the MASS is their number. */
    private static OutlookOdds plain(int number) {
        OutlookOdds x = new OutlookOdds();
        for (int age = 0; age < 6; age++) {
            x.age(age, age == 0 ? number : 0, 1, 1000, 0);
        }
        return x;
    }

    /** Nothing is caught; age 0 alone has a weight, so that from year 2 on the MASS is that of the young. */
    private static OutlookOdds youngOnly(int first, int young) {
        OutlookOdds x = new OutlookOdds();
        x.age(0, first, 1, 1000, 0);
        x.young(young);
        x.rule(0, 0, 0);
        return x;
    }

    /** What is born of a YOUNG of 1000, by the document's words and the draws that the promise of draw tests. */
    private static long born(OutlookOdds x, int seed, int year) {
        return 1000L * (50 + x.draw(seed, year, 0) % 101) / 100;
    }

    private static void newObject() {
        OutlookOdds x = new OutlookOdds();
        Check.same("NONE", OutlookOdds.NONE, -1);
        for (int what = 0; what < 4; what++) {
            Check.same("a new object's count(" + what + ")", x.count(what), 0);
        }
        Check.same("the first change()", x.change(1000), 1000);
        Check.same("the first mark()", x.mark(0), 0);
        Check.same("the first young()", x.young(0), 0);
        Check.noSuchPlace("run without a rule", () -> x.run(0, 1, 1));
        x.rule(0, 0, 900);
        Check.same("a run without fish", x.run(0, 20, 16), 0);
        for (int what = 0; what < 4; what++) {
            Check.same("told of no fish, what " + what, x.told(15, 20, what), 0);
        }

        OutlookOdds y = plain(1000);
        y.rule(0, 0, 0);
        y.run(0, 4, 1);
        Check.same("SPREAD 0 and DELAY 0 at first", y.told(0, 4, 3), y.told(0, 4, 0));
    }

    private static void age() {
        OutlookOdds x = new OutlookOdds();
        for (int age : new int[] {Integer.MIN_VALUE, -1, 6, Integer.MAX_VALUE}) {
            Check.noSuchPlace("age " + age, () -> x.age(age, 1, 1, 1, 1));
            Check.noSuchPlace("age " + age + " and wrong numbers", () -> x.age(age, -1, -1, -1, -1));
        }
        for (int out : OUTSIDE) {
            Check.wrongNumber("number " + out, () -> x.age(5, out, 1, 1, 1));
            Check.wrongNumber("weight " + out, () -> x.age(5, 1, out, 1, 1));
            Check.wrongNumber("ripe " + out, () -> x.age(5, 1, 1, out, 1));
            Check.wrongNumber("die " + out, () -> x.age(5, 1, 1, 1, out));
        }
        Check.wrongNumber("number 100001", () -> x.age(0, 100001, 1, 1, 1));
        Check.wrongNumber("weight 10001", () -> x.age(0, 1, 10001, 1, 1));
        Check.wrongNumber("ripe 1001", () -> x.age(0, 1, 1, 1001, 1));
        Check.wrongNumber("die 1001", () -> x.age(0, 1, 1, 1, 1001));

        x.age(0, 100000, 10000, 1000, 1000);
        x.age(5, 7, 11, 300, 0);
        Check.wrongNumber("a wrong die changes nothing", () -> x.age(5, 9, 9, 9, 1001));
        x.rule(0, 0, 0);
        x.run(0, 2, 1);
        Check.same("MASS of ages at their most", x.told(0, 1, 0), 1000000000L + 23);
        Check.same("all of age 0 die", x.told(0, 2, 0), 23);
        x.age(0, 0, 0, 0, 0);
        Check.same("what was told stays told", x.told(0, 1, 0), 1000000023L);
        x.run(0, 1, 1);
        Check.same("an age told anew", x.told(0, 1, 0), 23);
    }

    private static void young() {
        OutlookOdds x = youngOnly(0, 0);
        Check.same("young was 0", x.young(100000), 0);
        Check.same("young was 100000", x.young(1000), 100000);
        for (int out : new int[] {Integer.MIN_VALUE, -1, 100001, Integer.MAX_VALUE}) {
            Check.wrongNumber("young " + out, () -> x.young(out));
        }
        x.run(0, 20, 16);
        // draw(0, 1, 0) is 9806, and 9806 modulo 101 is 9.
        Check.same("young of seed 0 after year 1", x.told(0, 2, 0), 590);
        // Drawn by another object, since beyond 512 calls of one nothing is promised.
        OutlookOdds other = new OutlookOdds();
        for (int seed = 0; seed < 16; seed++) {
            for (int year = 2; year <= 20; year++) {
                Check.same("young of seed " + seed + " in " + year, x.told(seed, year, 0), born(other, seed, year - 1));
            }
        }
        Check.same("a wrong young changes nothing", x.young(3), 1000);
        x.run(0, 2, 1);
        Check.same("young are rounded down", x.told(0, 2, 0), 1);
    }

    private static void rule() {
        OutlookOdds x = new OutlookOdds();
        for (int out : OUTSIDE) {
            Check.wrongNumber("low " + out, () -> x.rule(out, 2000000000, 1));
            Check.wrongNumber("high " + out, () -> x.rule(0, out, 1));
            Check.wrongNumber("rate " + out, () -> x.rule(0, 1, out));
            Check.wrongNumber("low and high " + out, () -> x.rule(out, out, 1));
        }
        Check.wrongNumber("low above high", () -> x.rule(5, 4, 1));
        Check.wrongNumber("low 2000000001", () -> x.rule(2000000001, 2000000001, 1));
        Check.wrongNumber("high 2000000001", () -> x.rule(0, 2000000001, 1));
        Check.wrongNumber("rate 901", () -> x.rule(0, 1, 901));
        Check.same("wrong rules are none", x.count(0), 0);
        Check.same("rule 0", x.rule(0, 0, 0), 0);
        Check.same("rule 1", x.rule(2000000000, 2000000000, 900), 1);
        Check.same("rule 2", x.rule(0, 2000000000, 900), 2);
        for (int number = 3; number < 6; number++) {
            Check.same("rule " + number, x.rule(1, 2, 3), number);
        }
        Check.wrongState("a seventh rule", () -> x.rule(1, 2, 3));
        Check.wrongNumber("a seventh rule that is wrong", () -> x.rule(2, 1, 3));
        Check.same("six rules", x.count(0), 6);
    }

    private static void ruleAllows() {
        // A TOTAL of 1000 makes the CATCH what the rule allows.
        Check.same("below LOW", allowedFor(1000, 1001, 2000, 900), 0);
        Check.same("at LOW", allowedFor(1000, 1000, 2000, 900), 0);
        Check.same("just above LOW", allowedFor(1000, 999, 2000, 900), 0);
        Check.same("between, rounded down", allowedFor(1000, 990, 1020, 100), 33);
        Check.same("just below HIGH", allowedFor(1000, 0, 1001, 900), 899);
        Check.same("at HIGH", allowedFor(1000, 0, 1000, 900), 900);
        Check.same("above HIGH", allowedFor(1000, 0, 1, 77), 77);
        Check.same("LOW is HIGH, mass below", allowedFor(1000, 1001, 1001, 900), 0);
        Check.same("LOW is HIGH, mass there", allowedFor(1000, 1000, 1000, 900), 900);
        Check.same("LOW and HIGH at 0", allowedFor(1000, 0, 0, 900), 900);
        Check.same("HIGH at its most", allowedFor(1000, 0, 2000000000, 900), 0);
    }

    private static long allowedFor(int mass, int low, int high, int rate) {
        OutlookOdds x = plain(mass);
        int rule = x.rule(low, high, rate);
        x.run(rule, 1, 1);
        return x.told(0, 1, 2);
    }

    private static void change() {
        OutlookOdds x = plain(1000);
        x.rule(0, 0, 500);
        for (int out : new int[] {Integer.MIN_VALUE, -1, 1001, Integer.MAX_VALUE}) {
            Check.wrongNumber("change " + out, () -> x.change(out));
        }
        Check.same("change was 1000", x.change(999), 1000);
        Check.same("change was 999", x.change(0), 999);
        Check.same("change was 0", x.change(1000), 0);

        tellsCatches("no limit at 1000", x, 500, 250, 125);
        x.change(100);
        tellsCatches("down by a tenth at most", x, 500, 450, 50);
        x.change(333);
        tellsCatches("the limit rounds down", x, 500, 334, 166);
        x.change(0);
        tellsCatches("no change, but never more than TOTAL", x, 500, 500, 0);

        OutlookOdds y = new OutlookOdds();
        y.age(0, 100, 10, 1000, 0);
        y.age(1, 0, 1000, 1000, 0);
        y.rule(0, 0, 100);
        y.change(250);
        y.run(0, 2, 1);
        Check.same("up by a quarter at most", y.told(0, 2, 2), 125);
        y.change(1000);
        y.run(0, 2, 1);
        Check.same("up without a limit", y.told(0, 2, 2), 9000);
    }

    private static void tellsCatches(String what, OutlookOdds x, int first, int second, int third) {
        x.run(0, 3, 1);
        Check.same(what + ", year 1", x.told(0, 1, 2), first);
        Check.same(what + ", year 2", x.told(0, 2, 2), second);
        Check.same(what + ", year 3", x.told(0, 3, 2), third);
    }

    private static void error() {
        OutlookOdds x = plain(1000);
        x.rule(0, 0, 0);
        for (int out : OUTSIDE) {
            Check.wrongNumber("spread " + out, () -> x.error(out, 0));
            Check.wrongNumber("delay " + out, () -> x.error(0, out));
        }
        Check.wrongNumber("spread 51", () -> x.error(51, 0));
        Check.wrongNumber("delay 4", () -> x.error(10, 4));
        x.run(0, 1, 16);
        Check.same("a wrong error changes nothing", x.told(0, 1, 3), 1000);
        x.error(10, 0);
        x.run(0, 1, 16);
        // draw(0, 1, 1) is 59632, and 59632 modulo 21 is 13.
        Check.same("3 hundredths more", x.told(0, 1, 3), 1030);
        x.error(50, 3);
        x.run(0, 5, 16);
        boolean fewer = false;
        for (int seed = 0; seed < 16; seed++) {
            long seen = 1000 * (50 + x.draw(seed, 5, 1) % 101) / 100;
            Check.same("SEEN of seed " + seed, x.told(seed, 5, 3), seen);
            fewer = fewer || seen < 1000;
        }
        Check.same("some see less", fewer ? 1 : 0, 1);
        x.age(0, 1, 1, 1000, 0);
        x.run(0, 1, 1);
        // 59632 modulo 101 is 42: by 8 hundredths less.
        Check.same("SEEN is rounded down", x.told(0, 1, 3), 0);
    }

    private static void delay() {
        OutlookOdds x = new OutlookOdds();
        for (int age = 0; age < 6; age++) {
            x.age(age, age == 0 ? 1000 : 0, age + 1, 1000, 0);
        }
        x.rule(0, 0, 0);
        for (int delay = 0; delay <= 3; delay++) {
            x.error(0, delay);
            x.run(0, 6, 1);
            for (int year = 1; year <= 6; year++) {
                long yearSeen = Math.max(1, year - delay);
                Check.same("delay " + delay + ", SEEN in " + year, x.told(0, year, 3), 1000 * yearSeen);
                Check.same("delay " + delay + ", MASS in " + year, x.told(0, year, 0), 1000L * year);
            }
        }
        x.rule(2000, 2000, 500);
        x.run(1, 6, 1);
        Check.same("the rule is asked for SEEN, year 4", x.told(0, 4, 2), 0);
        Check.same("the rule is asked for SEEN, year 5", x.told(0, 5, 2), 2500);
    }

    private static void mark() {
        OutlookOdds x = plain(1000);
        x.rule(0, 0, 0);
        Check.same("mark was 0", x.mark(Integer.MAX_VALUE), 0);
        Check.same("mark was the most", x.mark(1000), Integer.MAX_VALUE);
        Check.wrongNumber("mark -1", () -> x.mark(-1));
        Check.wrongNumber("mark of the least int", () -> x.mark(Integer.MIN_VALUE));
        Check.same("a wrong mark changes nothing", x.mark(1000), 1000);
        Check.same("MASS at the mark is not below", x.run(0, 1, 4), 0);
        x.mark(1001);
        Check.same("the mark is asked as it is", x.below(1, 0), 1);
        Check.same("below a mark", x.run(0, 1, 4), 4);
    }

    private static void draw() {
        OutlookOdds x = new OutlookOdds();
        Check.same("draw(0, 1, 0)", x.draw(0, 1, 0), 9806);
        Check.same("draw(0, 1, 1)", x.draw(0, 1, 1), 59632);
        Check.same("draw(-7, 20, 5)", x.draw(-7, 20, 5), 5664);
        Check.same("draws of one sum are one", x.draw(7, -31, 0), x.draw(0, 0, 0));
        int[] any = {Integer.MIN_VALUE, -123456789, -1, 0, 1, 65537, Integer.MAX_VALUE};
        for (int seed : any) {
            for (int year : any) {
                for (int which : any) {
                    long sum = 31L * seed + 7L * year + which;
                    long first = (sum * 1103515245L + 12345L) & 0xffffffffL;
                    long second = (first * 1103515245L + 12345L) & 0xffffffffL;
                    Check.same("draw of " + seed + " " + year + " " + which, x.draw(seed, year, which), second >> 16);
                }
            }
        }
    }

    private static void run() {
        OutlookOdds x = youngOnly(1000, 1000);
        x.mark(1000);
        for (int out : OUTSIDE) {
            Check.noSuchPlace("run of rule " + out, () -> x.run(out, 1, 1));
            Check.noSuchPlace("run of rule " + out + " and wrong numbers", () -> x.run(out, 0, 0));
            Check.wrongNumber("years " + out, () -> x.run(0, out, 1));
            Check.wrongNumber("seeds " + out, () -> x.run(0, 1, out));
        }
        Check.noSuchPlace("run of rule 1 of 1", () -> x.run(1, 1, 1));
        for (int years : new int[] {0, 21}) {
            Check.wrongNumber("years " + years, () -> x.run(0, years, 1));
        }
        for (int seeds : new int[] {0, 17}) {
            Check.wrongNumber("seeds " + seeds, () -> x.run(0, 1, seeds));
        }
        Check.same("wrong runs are none", x.count(3), 0);
        Check.wrongState("wrong runs tell nothing", () -> x.told(0, 1, 0));

        int fallen = 0;
        for (int seed = 0; seed < 16; seed++) {
            fallen += Math.min(born(x, seed, 1), born(x, seed, 2)) < 1000 ? 1 : 0;
        }
        Check.same("seeds below the mark in some year", x.run(0, 3, 16), fallen);
        Check.same("seeds below the mark in year 1", x.run(0, 1, 16), 0);
        x.run(0, 3, 16);
        long told = x.told(15, 3, 0);
        Check.wrongNumber("a wrong run", () -> x.run(0, 2, 17));
        Check.same("a wrong run changes nothing told", x.told(15, 3, 0), told);
        Check.same("a wrong run changes no years", x.count(1), 3);
    }

    private static void yearOfASeed() {
        OutlookOdds x = new OutlookOdds();
        x.age(2, 1003, 10, 333, 100);
        x.age(3, 7, 20, 1000, 0);
        x.age(4, 5, 30, 1000, 500);
        x.age(5, 3, 40, 1000, 1000);
        x.rule(0, 0, 200);
        x.run(0, 2, 1);
        // TOTAL 10030 + 140 + 150 + 120 = 10440, MASS 3339 + 140 + 150 + 120, CATCH 2088: of a fifth, rounded down.
        Check.same("MASS of year 1", x.told(0, 1, 0), 3749);
        Check.same("SEEN of year 1", x.told(0, 1, 3), 3749);
        Check.same("CATCH of year 1", x.told(0, 1, 2), 2088);
        // TAKEN 200, 1, 1, 0.
        Check.same("CAUGHT of year 1", x.told(0, 1, 1), 2000 + 20 + 30);
        // Left 803, 6, 4, 3; after deaths 723, 6, 2, 0; a year older 723 of age 3, 6 of 4, 2 of 5.
        Check.same("MASS of year 2", x.told(0, 2, 0), 723 * 20 + 6 * 30 + 2 * 40);
        Check.same("CATCH of year 2", x.told(0, 2, 2), 14720 / 5);
        Check.same("CAUGHT of year 2", x.told(0, 2, 1), 144 * 20 + 30);
        x.run(0, 1, 2);
        Check.same("each seed begins anew", x.told(1, 1, 0), 3749);

        OutlookOdds y = new OutlookOdds();
        y.age(4, 10, 0, 0, 0);
        y.age(5, 20, 1, 1000, 0);
        y.rule(0, 0, 0);
        y.run(0, 3, 1);
        Check.same("age 5 before", y.told(0, 1, 0), 20);
        Check.same("from age 4 to 5, where they stay", y.told(0, 2, 0), 30);
        Check.same("they stay on", y.told(0, 3, 0), 30);
    }

    /** TAKEN is rounded down, so that of a CATCH of 505, 255 and 130 are CAUGHT 500, 250 and 130. */
    private static void caughtIsNotTheCatch() {
        OutlookOdds x = new OutlookOdds();
        for (int age = 0; age < 6; age++) {
            x.age(age, age == 0 ? 101 : 0, 10, 1000, 0);
        }
        x.rule(0, 0, 500);
        tellsCatches("CATCH", x, 505, 255, 130);
        Check.same("CAUGHT of year 1", x.told(0, 1, 1), 500);
        Check.same("CAUGHT of year 2", x.told(0, 2, 1), 250);
        Check.same("CAUGHT of year 3", x.told(0, 3, 1), 130);
        Check.same("steady of CAUGHT", x.steady(0), 250 + 120);
        Check.same("mean of CAUGHT, above", x.mean(0, 0), 880);
        Check.same("mean of CAUGHT, below", x.mean(0, 1), 3);
        Check.same("table of CAUGHT", x.table(10), 880);
        x.change(100);
        // Limits go by the CATCH of the year before: 505 - 50, 455 - 45, but never more than TOTAL.
        x.run(0, 2, 1);
        Check.same("CHANGE of the CATCH", x.told(0, 2, 2), 455);
    }

    private static void lastFish() {
        OutlookOdds x = new OutlookOdds();
        x.age(0, 10, 1, 1000, 800);
        x.age(1, 0, 1, 1000, 0);
        x.age(2, 0, 1, 1000, 0);
        x.rule(0, 0, 500);
        x.change(0);
        tellsCatches("CATCH to the last fish", x, 5, 1, 0);
        Check.same("a TOTAL of 1 is caught", x.told(0, 2, 1), 1);
        Check.same("of a TOTAL of 0 nothing is", x.told(0, 3, 1), 0);
    }

    private static void greatestNumbers() {
        OutlookOdds x = new OutlookOdds();
        for (int age = 0; age < 6; age++) {
            x.age(age, 100000, 10000, 1000, 0);
        }
        x.young(100000);
        x.rule(0, 0, 0);
        x.rule(0, 0, 900);
        x.error(50, 0);
        x.run(0, 20, 1);
        long fish = 600000;
        for (int year = 1; year < 20; year++) {
            fish += 100000L * (50 + x.draw(0, year, 0) % 101) / 100;
        }
        Check.same("the greatest MASS", x.told(0, 20, 0), fish * 10000);
        Check.same("the greatest SEEN", x.told(0, 20, 3), fish * 100 * (50 + x.draw(0, 20, 1) % 101));
        Check.same("nothing is caught", x.told(0, 20, 1), 0);
        x.run(1, 1, 16);
        Check.same("the greatest CATCH of year 1", x.told(15, 1, 2), 5400000000L);
        Check.same("the greatest CAUGHT of year 1", x.told(15, 1, 1), 5400000000L);
    }

    private static void told() {
        OutlookOdds x = plain(1000);
        Check.wrongState("told before a run", () -> x.told(0, 1, 0));
        Check.wrongState("told before a run, of nothing", () -> x.told(-1, 0, 9));
        x.rule(0, 2000, 200);
        x.error(10, 0);
        x.run(0, 3, 2);
        Check.same("told MASS", x.told(0, 1, 0), 1000);
        Check.same("told CAUGHT", x.told(0, 1, 1), 103);
        Check.same("told CATCH", x.told(0, 1, 2), 103);
        Check.same("told SEEN", x.told(0, 1, 3), 1030);
        for (int out : OUTSIDE) {
            Check.noSuchPlace("told of seed " + out, () -> x.told(out, 1, 0));
            Check.noSuchPlace("told of year " + out, () -> x.told(0, out, 0));
            Check.noSuchPlace("told of what " + out, () -> x.told(0, 1, out));
        }
        Check.noSuchPlace("told of seed 2 of 2", () -> x.told(2, 1, 0));
        Check.noSuchPlace("told of year 0", () -> x.told(0, 0, 0));
        Check.noSuchPlace("told of year 4 of 3", () -> x.told(0, 4, 0));
        Check.noSuchPlace("told of what 4", () -> x.told(0, 1, 4));
        x.run(0, 1, 1);
        Check.noSuchPlace("a later run has fewer years", () -> x.told(0, 2, 0));
        Check.noSuchPlace("a later run has fewer seeds", () -> x.told(1, 1, 0));
    }

    private static void below() {
        OutlookOdds x = youngOnly(1000, 1000);
        Check.wrongState("below before a run", () -> x.below(1, 0));
        Check.wrongState("below before a run, of nothing", () -> x.below(0, 2));
        x.run(0, 2, 16);
        Check.same("none below, above", x.below(1, 0), 0);
        Check.same("none below, below", x.below(1, 1), 1);
        x.mark(1001);
        Check.same("all below, above", x.below(1, 0), 1);
        Check.same("all below, below", x.below(1, 1), 1);
        for (int places = 0; places < 16; places++) {
            long mass = x.rank(2, places);
            x.mark((int) mass);
            int fewer = 0;
            for (int seed = 0; seed < 16; seed++) {
                fewer += x.told(seed, 2, 0) < mass ? 1 : 0;
            }
            Check.same("below as a fraction", 16L * x.below(2, 0), (long) fewer * x.below(2, 1));
            int common = x.below(2, 0) % 2 == 0 && x.below(2, 1) % 2 == 0 ? 1 : 0;
            Check.same("below without a common divisor", common, 0);
        }
        for (int out : OUTSIDE) {
            Check.noSuchPlace("below in year " + out, () -> x.below(out, 0));
            Check.noSuchPlace("below, part " + out, () -> x.below(1, out));
        }
        Check.noSuchPlace("below in year 0", () -> x.below(0, 0));
        Check.noSuchPlace("below in year 3 of 2", () -> x.below(3, 0));
        Check.noSuchPlace("below, part 2", () -> x.below(1, 2));
    }

    private static void steady() {
        OutlookOdds x = plain(1000);
        Check.wrongState("steady before a run", () -> x.steady(0));
        Check.wrongState("steady before a run, of nothing", () -> x.steady(-1));
        x.rule(0, 0, 500);
        x.run(0, 1, 2);
        Check.same("steady of one year", x.steady(1), 0);
        x.run(0, 3, 2);
        Check.same("steady downward", x.steady(0), 250 + 125);
        x.age(1, 0, 4, 1000, 0);
        x.run(0, 3, 1);
        // CAUGHT 500, 1000, 125.
        Check.same("steady up and down", x.steady(0), 500 + 875);
        for (int seed : new int[] {Integer.MIN_VALUE, -1, 1, Integer.MAX_VALUE}) {
            Check.noSuchPlace("steady of seed " + seed, () -> x.steady(seed));
        }
    }

    private static void recovers() {
        OutlookOdds x = new OutlookOdds();
        Check.wrongState("recovers before a run", () -> x.recovers(0, 1));
        Check.wrongState("recovers before a run, of nothing", () -> x.recovers(-1, 0));
        int[] weights = {5, 1, 6, 1, 7, 7};
        for (int age = 0; age < 6; age++) {
            x.age(age, age == 0 ? 1 : 0, weights[age], 1000, 0);
        }
        x.rule(0, 0, 0);
        x.run(0, 8, 1);
        Check.same("at a mark of 0", x.recovers(0, 8), 1);
        Check.same("the run is too short", x.recovers(0, 9), -1);
        Check.same("the greatest span", x.recovers(0, 20), -1);
        x.mark(5);
        Check.same("span 1", x.recovers(0, 1), 1);
        Check.same("span 2", x.recovers(0, 2), 5);
        Check.same("span to the end", x.recovers(0, 4), 5);
        Check.same("span beyond the end", x.recovers(0, 5), -1);
        x.mark(6);
        Check.same("MASS at the mark", x.recovers(0, 1), 3);
        x.mark(8);
        Check.same("never", x.recovers(0, 1), -1);
        for (int out : OUTSIDE) {
            Check.noSuchPlace("recovers, seed " + out, () -> x.recovers(out, 1));
            Check.noSuchPlace("recovers, seed " + out + " and a wrong span", () -> x.recovers(out, 0));
            Check.wrongNumber("recovers, span " + out, () -> x.recovers(0, out));
        }
        Check.noSuchPlace("recovers, seed 1 of 1", () -> x.recovers(1, 1));
        Check.wrongNumber("recovers, span 0", () -> x.recovers(0, 0));
        Check.wrongNumber("recovers, span 21", () -> x.recovers(0, 21));
    }

    private static void rank() {
        OutlookOdds x = youngOnly(7, 1000);
        Check.wrongState("rank before a run", () -> x.rank(1, 0));
        Check.wrongState("rank before a run, of nothing", () -> x.rank(0, -1));
        for (int year = 1; year <= 20; year++) {
            ranksOfAYear(year);
        }
        x.run(0, 20, 16);
        x.run(0, 2, 3);
        Check.same("rank in a later run", x.rank(1, 2), 7);
        for (int out : OUTSIDE) {
            Check.noSuchPlace("rank in year " + out, () -> x.rank(out, 0));
            Check.noSuchPlace("rank at place " + out, () -> x.rank(1, out));
        }
        Check.noSuchPlace("rank in year 0", () -> x.rank(0, 0));
        Check.noSuchPlace("rank in year 3 of 2", () -> x.rank(3, 0));
        Check.noSuchPlace("rank at place 3 of 3", () -> x.rank(1, 3));
    }

    /** Each year has an object of its own, since beyond 512 calls of one nothing is promised. */
    private static void ranksOfAYear(int year) {
        OutlookOdds x = youngOnly(7, 1000);
        x.run(0, 20, 16);
        long[] masses = new long[16];
        for (int seed = 0; seed < 16; seed++) {
            masses[seed] = x.told(seed, year, 0);
        }
        Arrays.sort(masses);
        for (int k = 0; k < 16; k++) {
            Check.same("rank(" + year + ", " + k + ")", x.rank(year, k), masses[k]);
        }
    }

    private static void mean() {
        OutlookOdds x = plain(1000);
        Check.wrongState("mean before a run", () -> x.mean(0, 0));
        Check.wrongState("mean before a run, of nothing", () -> x.mean(2, 2));
        x.rule(0, 0, 500);
        x.run(0, 3, 2);
        // CAUGHT 2 * (500 + 250 + 125) by 6, MASS 2 * 250 by 2.
        Check.same("mean CAUGHT, above", x.mean(0, 0), 875);
        Check.same("mean CAUGHT, below", x.mean(0, 1), 3);
        Check.same("mean MASS, above", x.mean(1, 0), 250);
        Check.same("mean MASS, below", x.mean(1, 1), 1);
        x.run(0, 4, 1);
        // CAUGHT 500 + 250 + 125 + 62 by 4.
        Check.same("mean CAUGHT of 4 years, above", x.mean(0, 0), 937);
        Check.same("mean CAUGHT of 4 years, below", x.mean(0, 1), 4);
        x.age(0, 0, 0, 0, 0);
        x.run(0, 20, 16);
        Check.same("mean of nothing, above", x.mean(0, 0), 0);
        Check.same("mean of nothing, below", x.mean(0, 1), 1);
        OutlookOdds y = youngOnly(0, 1);
        y.run(0, 2, 16);
        long sum = 0;
        for (int seed = 0; seed < 16; seed++) {
            sum += y.told(seed, 2, 0);
        }
        Check.same("mean MASS of all seeds", 16 * y.mean(1, 0), sum * y.mean(1, 1));
        for (int out : new int[] {Integer.MIN_VALUE, -1, 2, Integer.MAX_VALUE}) {
            Check.noSuchPlace("mean of what " + out, () -> x.mean(out, 0));
            Check.noSuchPlace("mean, part " + out, () -> x.mean(0, out));
        }
    }

    private static void table() {
        OutlookOdds x = plain(1000);
        Check.wrongState("table before a run", () -> x.table(0));
        Check.wrongState("table before a run, of nothing", () -> x.table(19));
        x.rule(1000, 1000, 500);
        x.rule(0, 0, 300);
        x.run(0, 2, 2);
        x.rule(0, 0, 0);
        // From year 2 on the MASS is below LOW, but for a RATE of 0.
        Check.same("table(0)", x.table(0), 0);
        Check.same("table(1)", x.table(1), 100);
        Check.same("table(18)", x.table(18), 1800);
        Check.same("table changes no run", x.count(3), 1);
        Check.same("table changes nothing told", x.told(0, 1, 1), 500);
        x.run(1, 2, 2);
        Check.same("table of the latest run's rule", x.table(10), 2 * (500 + 250));
        x.change(0);
        Check.same("table as CHANGE is now", x.table(10), 2 * (500 + 500));
        x.age(0, 2000, 1, 1000, 0);
        Check.same("table as the ages are now", x.table(10), 2 * (1000 + 1000));
        Check.same("what was told stays told", x.told(1, 2, 1), 210);
        for (int out : new int[] {Integer.MIN_VALUE, -1, 19, Integer.MAX_VALUE}) {
            Check.noSuchPlace("table(" + out + ")", () -> x.table(out));
        }

        OutlookOdds y = plain(1000);
        y.rule(0, 1030, 900);
        y.run(0, 1, 1);
        Check.same("table between LOW and HIGH", y.table(18), 900 * 1000 / 1030);
        y.error(10, 0);
        Check.same("table as SPREAD is now", y.table(18), 900);
        y.age(0, 0, 1, 1000, 0);
        y.run(0, 2, 1);
        y.young(1000);
        // 590 are young in year 2; draw(0, 2, 1) modulo 21, less 10, tells what is seen of them.
        long seen = 590L * (90 + y.draw(0, 2, 1) % 21) / 100;
        Check.same("table as YOUNG is now", y.table(18), 590 * (900 * seen / 1030) / 1000);
    }

    private static void top() {
        OutlookOdds x = plain(1000);
        Check.wrongState("top before a run", x::top);
        x.rule(0, 0, 0);
        x.run(0, 1, 1);
        Check.same("top of one year", x.top(), 18);
        x.age(0, 0, 1, 1000, 0);
        Check.same("top without fish is the least", x.top(), 0);
        x.age(0, 1000, 1, 1000, 0);
        x.age(1, 0, 10, 1000, 0);
        x.age(2, 0, 0, 0, 0);
        x.run(0, 2, 1);
        // Of 1000 r is taken first and (1000 - r) * r / 1000 then, of tenfold weight: at 550 the most.
        Check.same("top of two years", x.top(), 11);
        Check.same("top changes no run", x.count(3), 2);
        Check.same("top changes nothing told", x.told(0, 2, 1), 0);
        OutlookOdds y = plain(3);
        y.rule(0, 0, 0);
        y.run(0, 1, 1);
        // 2 of 3 are taken only from a CATCH of 2 on, that is from a rate of 667 on: 700 is the least of the table.
        Check.same("top is the least k of several", y.top(), 14);

        OutlookOdds z = new OutlookOdds();
        z.age(0, 100, 1, 1000, 0);
        z.age(1, 0, 1000, 1, 0);
        z.rule(95, 95, 0);
        z.run(0, 2, 1);
        // A rate above 50 leaves fewer than 95, for which the rule allows nothing when they are heavy.
        Check.same("top of a rule with a LOW", z.top(), 1);
        Check.same("table of a rule with a LOW", z.table(1), 5 + 4000);
    }

    private static void count() {
        OutlookOdds x = plain(10);
        x.rule(0, 0, 0);
        x.rule(0, 0, 1);
        x.run(0, 7, 5);
        x.run(1, 8, 6);
        x.run(1, 9, 4);
        Check.same("count of rules", x.count(0), 2);
        Check.same("count of years", x.count(1), 9);
        Check.same("count of seeds", x.count(2), 4);
        Check.same("count of runs", x.count(3), 3);
        for (int what : new int[] {Integer.MIN_VALUE, -1, 4, Integer.MAX_VALUE}) {
            Check.same("count(" + what + ")", x.count(what), -1);
        }
    }
}
