import java.util.ArrayList;
import java.util.List;

/** Stocks that the tests of the edges begin with, and all that can be asked of one. */
final class Stocks {
    private Stocks() {
    }

    /** Everything is other than at first, and there are three rules, but there was no RUN. */
    static OutlookOdds set() {
        OutlookOdds x = new OutlookOdds();
        x.age(0, 4000, 10, 0, 300);
        x.age(1, 3000, 20, 100, 200);
        x.age(2, 2000, 50, 500, 150);
        x.age(3, 1500, 80, 900, 100);
        x.age(4, 1200, 90, 1000, 250);
        x.age(5, 1100, 95, 990, 400);
        x.young(5000);
        x.change(300);
        x.error(20, 1);
        x.mark(300000);
        x.rule(100000, 900000, 400);
        x.rule(0, 500000, 350);
        x.rule(300000, 300000, 200);
        return x;
    }

    /** As set(), with a RUN of rule 1 over 4 years and 3 seeds. */
    static OutlookOdds ran() {
        OutlookOdds x = set();
        x.run(1, 4, 3);
        return x;
    }

    /** As ran(), with six rules. */
    static OutlookOdds full() {
        OutlookOdds x = ran();
        x.rule(0, 0, 900);
        x.rule(1, 2000000000, 900);
        x.rule(200000, 600000, 50);
        return x;
    }

    /** Fish of age 0 that are ripe at once, never die and weigh 1 at every age: the MASS is their number. */
    static OutlookOdds plain(int number) {
        OutlookOdds x = new OutlookOdds();
        for (int age = 0; age < 6; age++) {
            x.age(age, age == 0 ? number : 0, 1, 1000, 0);
        }
        return x;
    }

    /** Nothing is caught, and age 0 alone has a weight: from year 2 on the MASS is the number of the young. */
    static OutlookOdds youngOnly(int first, int young) {
        OutlookOdds x = new OutlookOdds();
        x.age(0, first, 1, 1000, 0);
        x.young(young);
        x.rule(0, 0, 0);
        return x;
    }

    /** Fish that are ripe at once and weigh so much together: beyond what one age holds, and beyond an int. */
    static OutlookOdds ofMass(long mass) {
        OutlookOdds x = new OutlookOdds();
        int age = 0;
        long rest = mass;
        while (rest >= 1000000000L) {
            x.age(age++, 100000, 10000, 1000, 0);
            rest -= 1000000000L;
        }
        x.age(age++, (int) (rest / 10000), 10000, 1000, 0);
        x.age(age, (int) (rest % 10000), 1, 1000, 0);
        return x;
    }

    /** One fish that weighs what is told for each age, and the last for all years that follow. */
    static OutlookOdds oneFish(int... weights) {
        OutlookOdds x = new OutlookOdds();
        for (int age = 0; age < 6; age++) {
            x.age(age, age == 0 ? 1 : 0, weights[Math.min(age, weights.length - 1)], 1000, 0);
        }
        x.rule(0, 0, 0);
        return x;
    }

    /** All that an object tells; it runs anew for this, so the object is of no use afterwards. */
    static List<String> portrait(OutlookOdds x) {
        List<String> all = new ArrayList<>();
        for (int what = -1; what <= 4; what++) {
            int w = what;
            tell(all, "count(" + w + ")", () -> x.count(w));
        }
        tellRun(all, x, Math.max(1, x.count(1)), 0, Math.max(1, x.count(2)));
        tellSettings(all, x);
        int rules = x.count(0);
        for (int rule = 0; rule < rules; rule++) {
            tellRunAnew(all, x, rule);
        }
        tell(all, "a rule more", () -> x.rule(0, 0, 0));
        return all;
    }

    /** What an object tells of one seed of its RUN: of the greatest RUN, all seeds together would pass 512 calls. */
    static List<String> portraitOfSeed(OutlookOdds x, int seed) {
        List<String> all = new ArrayList<>();
        for (int what = 0; what <= 3; what++) {
            int w = what;
            tell(all, "count(" + w + ")", () -> x.count(w));
        }
        tellRun(all, x, x.count(1), seed, seed + 1);
        tellSettings(all, x);
        return all;
    }

    /** Of what the RUN told of seeds from the first to before the end; without a RUN, that all of it is refused. */
    private static void tellRun(List<String> all, OutlookOdds x, int years, int first, int end) {
        for (int i = 1; i <= years; i++) {
            int year = i;
            for (int j = first; j < end; j++) {
                int seed = j;
                for (int k = 0; k < 4; k++) {
                    int what = k;
                    tell(all, "told(" + seed + ", " + year + ", " + what + ")", () -> x.told(seed, year, what));
                }
                tell(all, "rank(" + year + ", " + seed + ")", () -> x.rank(year, seed));
            }
            tell(all, "below(" + year + ", 0)", () -> x.below(year, 0));
            tell(all, "below(" + year + ", 1)", () -> x.below(year, 1));
        }
        for (int j = first; j < end; j++) {
            int seed = j;
            tell(all, "steady(" + seed + ")", () -> x.steady(seed));
            tell(all, "recovers(" + seed + ", 2)", () -> x.recovers(seed, 2));
        }
        for (int j = 0; j < 4; j++) {
            int what = j / 2;
            int part = j % 2;
            tell(all, "mean(" + what + ", " + part + ")", () -> x.mean(what, part));
        }
        tell(all, "table(3)", () -> x.table(3));
        tell(all, "top()", x::top);
    }

    private static void tellSettings(List<String> all, OutlookOdds x) {
        int young = x.young(0);
        int change = x.change(0);
        int mark = x.mark(0);
        x.young(young);
        x.change(change);
        x.mark(mark);
        all.add("young " + young + ", change " + change + ", mark " + mark);
    }

    private static void tellRunAnew(List<String> all, OutlookOdds x, int rule) {
        tell(all, "run(" + rule + ", 4, 2)", () -> x.run(rule, 4, 2));
        for (int i = 1; i <= 4; i++) {
            int year = i;
            for (int k = 0; k < 4; k++) {
                int what = k;
                tell(all, "rule " + rule + " anew, told(1, " + year + ", " + what + ")", () -> x.told(1, year, what));
            }
        }
    }

    private interface Question {
        long ask();
    }

    private static void tell(List<String> all, String name, Question question) {
        String answer;
        try {
            answer = Long.toString(question.ask());
        } catch (RuntimeException e) {
            answer = e.getClass().getSimpleName();
        }
        all.add(name + " is " + answer);
    }
}
