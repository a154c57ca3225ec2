import java.util.ArrayList;
import java.util.List;
import java.util.function.Consumer;
import java.util.function.Supplier;

/** Promises 1 to 18: the last number that each call allows and the first that it does not, on both sides. */
public final class CallsEdgesTest {
    private static final int LEAST = Integer.MIN_VALUE;
    private static final int MOST = Integer.MAX_VALUE;

    private static final int MASS = 0;
    private static final int CATCH = 2;
    private static final int SEEN = 3;

    /** What the greatest RUN tells of each seed, where no call was refused. */
    private static final List<List<String>> GREAT = portraitsOfGreat();

    public static void main(String[] args) {
        newObjectHasNoFishAndNoRule();
        newObjectHasNoRun();
        newObjectHasNoLimitErrorDelayOrMark();
        ageThatThereIsNot();
        ageNumbers();
        ageAtItsLastNumbers();
        youngNumbers();
        ruleNumbers();
        ruleAtItsLastNumbers();
        ruleThatHasNoRoom();
        changeNumbers();
        errorNumbers();
        markNumbers();
        markAtAMass();
        drawOfAnyNumbers();
        runOfARuleThatThereIsNot();
        runNumbers();
        runAtItsLastNumbers();
        runAnswersSeedsOnce();

        noRunComesFirst();
        otherCallsRefusedByGreat();
        toldPlaces();
        belowPlaces();
        steadyPlaces();
        steadyOfFewYears();
        recoversPlaces();
        recoversSpans();
        recoversOfTheRun();
        rankPlaces();
        rankOfLikeMasses();
        meanPlaces();
        meanOfTheLastYear();
        tablePlaces();
        tableAsItIsNow();
        tableOfTheLatestRun();
        topIsTheLeast();
        countWithoutARun();
        countOfAnotherWhat();
        Check.end();
    }

    // Promise 1

    /** "No fish and no RULE" */
    private static void newObjectHasNoFishAndNoRule() {
        for (int rule : new int[] {LEAST, -1, 0, 1, 5, MOST}) {
            Refused.noSuchPlace("rule " + rule + " of none", OutlookOdds::new, x -> x.run(rule, 1, 1));
        }
        OutlookOdds x = new OutlookOdds();
        Check.same("the first rule", x.rule(0, 0, 900), 0);
        x.run(0, 20, 16);
        Check.same("no fish", x.mean(1, 0), 0);
        Check.same("no fish CAUGHT", x.mean(0, 0), 0);
    }

    /** "there was no RUN" */
    private static void newObjectHasNoRun() {
        OutlookOdds x = new OutlookOdds();
        for (int what = 0; what < 4; what++) {
            Check.same("count(" + what + ") of a new object", x.count(what), 0);
        }
        Check.wrongState("told by a new object", () -> x.told(0, 1, 0));
        Check.wrongState("top of a new object", x::top);
    }

    /** "CHANGE is 1000, SPREAD, DELAY and the MARK 0" */
    private static void newObjectHasNoLimitErrorDelayOrMark() {
        OutlookOdds x = new OutlookOdds();
        Check.same("CHANGE at first", x.change(1000), 1000);
        Check.same("the MARK at first", x.mark(0), 0);
        Check.same("YOUNG at first", x.young(0), 0);

        OutlookOdds y = Stocks.oneFish(1000, 2000, 0);
        y.rule(2000, 2000, 500);
        Check.same("a MASS of 0 is not below the MARK at first", y.run(1, 4, 16), 0);
        for (int seed = 0; seed < 16; seed++) {
            Check.same("no error at first", y.told(seed, 1, SEEN), 1000);
            Check.same("no delay at first", y.told(seed, 2, SEEN), 2000);
            Check.same("no limit at first, up", y.told(seed, 2, CATCH), 1000);
            Check.same("no limit at first, down", y.told(seed, 3, CATCH), 0);
        }
    }

    // Promises 2 to 8

    /** An age that there is not: 0 .. 5. */
    private static void ageThatThereIsNot() {
        for (int age : Refused.outside(0, 5)) {
            Refused.noSuchPlace("age " + age, Stocks::ran, x -> x.age(age, 1, 1, 1, 1));
            Refused.noSuchPlace("age " + age + " of a new object", OutlookOdds::new, x -> x.age(age, 1, 1, 1, 1));
        }
    }

    /** "number is not 0 .. 100000, weight not 0 .. 10000, or ripe or die not 0 .. 1000" */
    private static void ageNumbers() {
        for (int age : new int[] {0, 3, 5}) {
            for (int out : Refused.outside(0, 100000)) {
                Refused.wrongNumber("number " + out, Stocks::ran, x -> x.age(age, out, 1, 1, 1));
            }
            for (int out : Refused.outside(0, 10000)) {
                Refused.wrongNumber("weight " + out, Stocks::ran, x -> x.age(age, 1, out, 1, 1));
            }
            for (int out : Refused.outside(0, 1000)) {
                Refused.wrongNumber("ripe " + out, Stocks::ran, x -> x.age(age, 1, 1, out, 1));
                Refused.wrongNumber("die " + out, Stocks::ran, x -> x.age(age, 1, 1, 1, out));
            }
            Refused.wrongNumber("all of age " + age, Stocks::ran, x -> x.age(age, -1, 10001, -1, 1001));
        }
    }

    private static void ageTells(long first, long second, int age, int number, int weight, int ripe, int die) {
        OutlookOdds x = new OutlookOdds();
        // What is a year older weighs 1, and so the second MASS is the number of those left.
        for (int other = 0; other < 6; other++) {
            x.age(other, 0, 1, 1000, 0);
        }
        x.age(age, number, weight, ripe, die);
        x.rule(0, 0, 0);
        x.run(0, 2, 1);
        String what = "age(" + age + ", " + number + ", " + weight + ", " + ripe + ", " + die + ")";
        Check.same(what + ", MASS of year 1", x.told(0, 1, MASS), first);
        Check.same(what + ", MASS of year 2", x.told(0, 2, MASS), second);
    }

    private static void ageAtItsLastNumbers() {
        for (int age = 0; age < 5; age++) {
            ageTells(1000000000L, 100000, age, 100000, 10000, 1000, 0);
            ageTells(1000000000L, 0, age, 100000, 10000, 1000, 1000);
            ageTells(0, 0, age, 0, 10000, 1000, 0);
            ageTells(0, 100000, age, 100000, 0, 1000, 0);
            ageTells(0, 100000, age, 100000, 10000, 0, 0);
            ageTells(0, 0, age, 0, 0, 0, 0);
            ageTells(998890110L, 100, age, 99999, 9999, 999, 999);
        }
        ageTells(1000000000L, 1000000000L, 5, 100000, 10000, 1000, 0);
        ageTells(1000000000L, 0, 5, 100000, 10000, 1000, 1000);
        ageTells(0, 0, 5, 100000, 10000, 0, 0);
    }

    /** "n is not 0 .. 100000" */
    private static void youngNumbers() {
        for (int out : Refused.outside(0, 100000)) {
            Refused.wrongNumber("young " + out, Stocks::ran, x -> x.young(out));
        }
        OutlookOdds x = Stocks.youngOnly(0, 0);
        Check.same("YOUNG was 0", x.young(100000), 0);
        Check.wrongNumber("young 100001", () -> x.young(100001));
        x.run(0, 2, 1);
        Check.same("the most YOUNG", x.told(0, 2, MASS), 59000);
        Check.same("YOUNG was 100000", x.young(0), 100000);
        Check.wrongNumber("young -1", () -> x.young(-1));
        x.run(0, 2, 1);
        Check.same("no YOUNG", x.told(0, 2, MASS), 0);
        Check.same("YOUNG was 0 again", x.young(1), 0);
    }

    /** "low or high is not 0 .. 2000000000, low above high, or rate not 0 .. 900" */
    private static void ruleNumbers() {
        int most = 2000000000;
        for (int out : Refused.outside(0, most)) {
            Refused.wrongNumber("low " + out, Stocks::ran, x -> x.rule(out, most, 1));
            Refused.wrongNumber("high " + out, Stocks::ran, x -> x.rule(0, out, 1));
            Refused.wrongNumber("low and high " + out, Stocks::ran, x -> x.rule(out, out, 1));
        }
        Refused.wrongNumber("low and high from the least", Stocks::ran, x -> x.rule(LEAST, -1, 1));
        Refused.wrongNumber("low and high to the most", Stocks::ran, x -> x.rule(most + 1, MOST, 1));
        Refused.wrongNumber("low to high over all", Stocks::ran, x -> x.rule(LEAST, MOST, 1));
        Refused.wrongNumber("low 1 above high 0", Stocks::ran, x -> x.rule(1, 0, 1));
        Refused.wrongNumber("low above high by one", Stocks::ran, x -> x.rule(501, 500, 1));
        Refused.wrongNumber("low above high by all", Stocks::ran, x -> x.rule(most, 0, 1));
        Refused.wrongNumber("low above high at the most", Stocks::ran, x -> x.rule(most, most - 1, 1));
        for (int out : Refused.outside(0, 900)) {
            Refused.wrongNumber("rate " + out, Stocks::ran, x -> x.rule(0, 1, out));
        }
        Refused.wrongNumber("the first rule", OutlookOdds::new, x -> x.rule(0, 0, 901));
    }

    /** Each rule keeps its own numbers, and the sixth is still one. */
    private static void ruleAtItsLastNumbers() {
        int most = 2000000000;
        OutlookOdds x = Stocks.ofMass(most);
        Check.same("rule at 0", x.rule(0, 0, 0), 0);
        Check.same("rule at the most", x.rule(most, most, 900), 1);
        Check.same("rule over all", x.rule(0, most, 900), 2);
        Check.same("rule with LOW below HIGH by one", x.rule(most - 1, most, 899), 3);
        Check.same("rule with HIGH at 0", x.rule(0, 0, 900), 4);
        Check.same("rule with the least RATE above 0", x.rule(500, 500, 1), 5);
        long[] due = {0, 1800000000L, 1800000000L, 1798000000L, 1800000000L, 2000000L};
        for (int rule = 0; rule < 6; rule++) {
            x.run(rule, 1, 1);
            Check.same("CATCH of rule " + rule, x.told(0, 1, CATCH), due[rule]);
        }
    }

    /** "IllegalStateException: there are 6" */
    private static void ruleThatHasNoRoom() {
        OutlookOdds x = Stocks.ran();
        for (int number = 3; number < 6; number++) {
            Check.same("rule " + number, x.rule(0, 0, 1), number);
            Check.same("rules there are", x.count(0), number + 1);
        }
        Check.wrongState("a seventh rule", () -> x.rule(0, 0, 1));
        Check.wrongState("a seventh rule once more", () -> x.rule(0, 0, 1));
        Check.same("still six", x.count(0), 6);
        Refused.wrongState("rule of six", Stocks::full, y -> y.rule(0, 0, 0));
        Refused.wrongState("rule of six at its most", Stocks::full, y -> y.rule(2000000000, 2000000000, 900));
    }

    /** "most is not 0 .. 1000" */
    private static void changeNumbers() {
        for (int out : Refused.outside(0, 1000)) {
            Refused.wrongNumber("change " + out, Stocks::ran, x -> x.change(out));
        }
        OutlookOdds x = new OutlookOdds();
        Check.same("CHANGE was 1000", x.change(0), 1000);
        Check.wrongNumber("change -1", () -> x.change(-1));
        Check.same("CHANGE was 0", x.change(1000), 0);
        Check.wrongNumber("change 1001", () -> x.change(1001));
        Check.same("CHANGE was 1000 again", x.change(999), 1000);
        Check.same("CHANGE was 999", x.change(999), 999);
    }

    /** "spread is not 0 .. 50, or delay not 0 .. 3" */
    private static void errorNumbers() {
        for (int out : Refused.outside(0, 50)) {
            Refused.wrongNumber("spread " + out, Stocks::ran, x -> x.error(out, 2));
        }
        for (int out : Refused.outside(0, 3)) {
            Refused.wrongNumber("delay " + out, Stocks::ran, x -> x.error(7, out));
        }
        Refused.wrongNumber("spread and delay", Stocks::ran, x -> x.error(51, 4));

        OutlookOdds x = Stocks.oneFish(1000, 2000, 3000, 4000, 5000, 6000);
        // draw(0, 5, 1) modulo 101 is 57: 7 hundredths more at a SPREAD of 50.
        errorTells(x, 50, 3, 2140);
        errorTells(x, 50, 0, 5350);
        errorTells(x, 0, 3, 2000);
        errorTells(x, 0, 0, 5000);
    }

    private static void errorTells(OutlookOdds x, int spread, int delay, long due) {
        x.error(spread, delay);
        x.run(0, 5, 1);
        Check.same("SEEN in year 5 at SPREAD " + spread + ", DELAY " + delay, x.told(0, 5, SEEN), due);
    }

    /** "it is below 0" */
    private static void markNumbers() {
        Refused.wrongNumber("mark -1", Stocks::ran, x -> x.mark(-1));
        Refused.wrongNumber("mark of the least int", Stocks::ran, x -> x.mark(LEAST));
        Refused.wrongNumber("mark -1 of a new object", OutlookOdds::new, x -> x.mark(-1));
        OutlookOdds x = new OutlookOdds();
        Check.same("MARK was 0", x.mark(1), 0);
        Check.same("MARK was 1", x.mark(MOST), 1);
        Check.wrongNumber("mark -1", () -> x.mark(-1));
        Check.same("MARK was the most", x.mark(0), MOST);
        Check.same("MARK was 0 again", x.mark(0), 0);
    }

    private static void belowMark(int due, long mass, int mark) {
        OutlookOdds x = Stocks.ofMass(mass);
        x.rule(0, 0, 0);
        x.mark(mark);
        String what = "a MASS of " + mass + " at a MARK of " + mark;
        Check.same(what + ", run", x.run(0, 1, 2), 2 * due);
        Check.same(what + ", below", x.below(1, 0), due);
        Check.same(what + ", recovers", x.recovers(1, 1), due == 1 ? OutlookOdds.NONE : 1);
    }

    private static void markAtAMass() {
        belowMark(0, 0, 0);
        belowMark(1, 0, 1);
        belowMark(0, 1, 1);
        belowMark(1, 999, 1000);
        belowMark(0, 1000, 1000);
        belowMark(0, 1001, 1000);
        belowMark(1, 2147483646L, MOST);
        belowMark(0, 2147483647L, MOST);
        // Masses that are below 0, or 5, as ints.
        belowMark(0, 2147483648L, MOST);
        belowMark(0, 4294967301L, MOST);
        belowMark(0, 4294967301L, 6);
    }

    /** "A DRAW (any numbers)": it throws nothing, is asked without a RUN, and changes nothing. */
    private static void drawOfAnyNumbers() {
        int[] any = {LEAST, LEAST + 1, -1, 0, 1, 2, 65536, MOST - 1, MOST};
        OutlookOdds x = Stocks.ran();
        for (int one : any) {
            int[] drawn = {x.draw(one, 0, 0), x.draw(0, one, 0), x.draw(0, 0, one), x.draw(one, one, one)};
            for (int draw : drawn) {
                Check.same("a draw of " + one + " is 0 .. 65535", draw >= 0 && draw <= 65535 ? 1 : 0, 1);
            }
        }
        Refused.sameStock("after draws", x, Stocks.ran());
        Check.same("a draw of a new object", new OutlookOdds().draw(0, 1, 0), 9806);
        Check.same("a which of 7 is a year of 1", new OutlookOdds().draw(0, 0, 7), 9806);
    }

    // Promise 9

    private static void runOfARuleThatThereIsNot() {
        for (int rule : Refused.outside(0, 2)) {
            Refused.noSuchPlace("rule " + rule + " of three", Stocks::ran, x -> x.run(rule, 1, 1));
            Refused.noSuchPlace("rule " + rule + " of three, no RUN", Stocks::set, x -> x.run(rule, 1, 1));
        }
        for (int rule : Refused.outside(0, 5)) {
            Refused.noSuchPlace("rule " + rule + " of six", Stocks::full, x -> x.run(rule, 1, 1));
        }
    }

    /** "years are not 1 .. 20, or seeds not 1 .. 16" */
    private static void runNumbers() {
        for (int out : Refused.outside(1, 20)) {
            Refused.wrongNumber("years " + out, Stocks::ran, x -> x.run(0, out, 1));
            Refused.wrongNumber("years " + out + ", no RUN", Stocks::set, x -> x.run(0, out, 1));
        }
        for (int out : Refused.outside(1, 16)) {
            Refused.wrongNumber("seeds " + out, Stocks::ran, x -> x.run(0, 1, out));
            Refused.wrongNumber("seeds " + out + ", no RUN", Stocks::set, x -> x.run(0, 1, out));
        }
        Refused.wrongNumber("years and seeds", Stocks::ran, x -> x.run(2, 0, 17));
        Refused.wrongNumber("seeds of the most years", Stocks::ran, x -> x.run(2, 20, 17));
        Refused.wrongNumber("years of the most seeds", Stocks::ran, x -> x.run(2, 21, 16));
    }

    private static void runAtItsLastNumbers() {
        OutlookOdds x = Stocks.full();
        int runs = 1;
        for (int years : new int[] {1, 20}) {
            for (int seeds : new int[] {1, 16}) {
                for (int rule : new int[] {0, 5}) {
                    x.run(rule, years, seeds);
                    runs++;
                    Check.same("count of years", x.count(1), years);
                    Check.same("count of seeds", x.count(2), seeds);
                    Check.same("count of runs", x.count(3), runs);
                    Check.same("the last SEEN", x.told(seeds - 1, years, SEEN) >= 0 ? 1 : 0, 1);
                    Check.noSuchPlace("a year more", () -> x.told(seeds - 1, years + 1, 0));
                    Check.noSuchPlace("a seed more", () -> x.told(seeds, years, 0));
                }
            }
        }
    }

    private static void runAnswers(int due, OutlookOdds x, int mark, int years, int seeds) {
        x.mark(mark);
        Check.same("run(0, " + years + ", " + seeds + ") at " + mark, x.run(0, years, seeds), due);
    }

    /** "how many seeds had a MASS below the MARK in some year": the first and the last too, and each seed once. */
    private static void runAnswersSeedsOnce() {
        OutlookOdds first = Stocks.oneFish(4, 5);
        runAnswers(16, first, 5, 20, 16);
        runAnswers(0, first, 4, 20, 16);
        runAnswers(1, first, 5, 1, 1);
        runAnswers(16, first, 6, 20, 16);
        OutlookOdds last = Stocks.oneFish(5, 5, 5, 5, 5, 4);
        runAnswers(0, last, 5, 5, 16);
        runAnswers(16, last, 5, 6, 16);
        OutlookOdds middle = Stocks.oneFish(5, 4, 5, 4, 5, 5);
        runAnswers(3, middle, 5, 20, 3);

        // Young of year 1, 50 + D: 59, 87, 127, 54, 95, 122, .. , 62 (seed 6), 138 (11), 147 (14) of seeds 0, 1, ..
        OutlookOdds x = Stocks.youngOnly(100000, 100);
        runAnswers(0, x, 54, 2, 16);
        runAnswers(1, x, 55, 2, 16);
        runAnswers(2, x, 60, 2, 16);
        runAnswers(15, x, 147, 2, 16);
        runAnswers(16, x, 148, 2, 16);
        // Of year 2: 56, 97, 124, 64 of seeds 0 to 3.
        runAnswers(2, x, 57, 3, 4);
        runAnswers(2, x, 60, 3, 4);
        runAnswers(3, x, 97, 3, 4);
        runAnswers(1, x, 55, 3, 4);
    }

    // Promises 10 to 17: no RUN

    /** "there was no RUN", which comes first: of right places and of wrong ones. */
    private static void noRunComesFirst() {
        for (Supplier<OutlookOdds> stock : List.<Supplier<OutlookOdds>>of(OutlookOdds::new, Stocks::set)) {
            for (int n : new int[] {LEAST, -1, 0, 1, 2, 18, 19, 20, 21, MOST}) {
                Refused.wrongState("no RUN, told of " + n, stock, x -> x.told(n, n, n));
                Refused.wrongState("no RUN, below of " + n, stock, x -> x.below(n, n));
                Refused.wrongState("no RUN, steady of " + n, stock, x -> x.steady(n));
                Refused.wrongState("no RUN, recovers of " + n, stock, x -> x.recovers(n, n));
                Refused.wrongState("no RUN, rank of " + n, stock, x -> x.rank(n, n));
                Refused.wrongState("no RUN, mean of " + n, stock, x -> x.mean(n, n));
                Refused.wrongState("no RUN, table of " + n, stock, x -> x.table(n));
            }
            Refused.wrongState("no RUN, told", stock, x -> x.told(0, 1, 0));
            Refused.wrongState("no RUN, below", stock, x -> x.below(1, 0));
            Refused.wrongState("no RUN, recovers", stock, x -> x.recovers(0, 1));
            Refused.wrongState("no RUN, rank", stock, x -> x.rank(1, 0));
            Refused.wrongState("no RUN, top", stock, OutlookOdds::top);
        }
        OutlookOdds x = Stocks.set();
        Check.wrongNumber("a refused run", () -> x.run(0, 0, 1));
        Check.wrongState("a refused run is none", () -> x.told(0, 1, 0));
    }

    // Promises 10 to 17: after a RUN of 4 years and 3 seeds, and after the greatest and the least

    private static void noSuch(String what, int least, int most, Supplier<OutlookOdds> stock, Place call) {
        for (int out : Refused.outside(least, most)) {
            Refused.noSuchPlace(what + " " + out, stock, x -> call.at(x, out));
        }
        OutlookOdds x = stock.get();
        for (int in = least; in <= most; in++) {
            int place = in;
            Check.same(what + " " + place, Check.thrownBy(() -> call.at(x, place)), "nothing thrown");
        }
    }

    private interface Place {
        void at(OutlookOdds x, int place);
    }

    /** A RUN of one year and one seed. */
    private static OutlookOdds small() {
        OutlookOdds x = Stocks.ran();
        x.run(0, 1, 1);
        return x;
    }

    /** A RUN of 20 years and 16 seeds. */
    private static OutlookOdds great() {
        OutlookOdds x = Stocks.ran();
        x.run(0, 20, 16);
        return x;
    }

    private static void noSuchOfGreat(String what, int least, int most, Place call) {
        for (int out : Refused.outside(least, most)) {
            refusedByGreat("IndexOutOfBoundsException", what + " " + out, x -> call.at(x, out));
        }
        OutlookOdds x = great();
        for (int in : new int[] {least, most}) {
            Check.same(what + " " + in, Check.thrownBy(() -> call.at(x, in)), "nothing thrown");
        }
    }

    /** Seed by seed, each asked of an object of its own, so that none is used for more than 512 calls. */
    private static void refusedByGreat(String due, String what, Consumer<OutlookOdds> call) {
        for (int seed = 0; seed < 16; seed++) {
            OutlookOdds x = great();
            Check.same(what + " of the greatest RUN", Check.thrownBy(() -> call.accept(x)), due);
            String difference = Refused.firstDifference(Stocks.portraitOfSeed(x, seed), GREAT.get(seed));
            Check.same("seed " + seed + " after a refused " + what, difference, "no difference");
        }
    }

    private static List<List<String>> portraitsOfGreat() {
        List<List<String>> all = new ArrayList<>();
        for (int seed = 0; seed < 16; seed++) {
            all.add(Stocks.portraitOfSeed(great(), seed));
        }
        return all;
    }

    /** What is refused for another reason than a place. */
    private static void otherCallsRefusedByGreat() {
        refusedByGreat("IndexOutOfBoundsException", "age 6", x -> x.age(6, 1, 1, 1, 1));
        refusedByGreat("IllegalArgumentException", "die 1001", x -> x.age(5, 1, 1, 1, 1001));
        refusedByGreat("IllegalArgumentException", "rate 901", x -> x.rule(0, 0, 901));
        refusedByGreat("IndexOutOfBoundsException", "rule 3 of three", x -> x.run(3, 1, 1));
        refusedByGreat("IllegalArgumentException", "run of 21 years", x -> x.run(1, 21, 1));
        refusedByGreat("IllegalArgumentException", "run of 17 seeds", x -> x.run(1, 1, 17));
        refusedByGreat("IllegalArgumentException", "span 21", x -> x.recovers(15, 21));
    }

    /** Seeds 0 .. 2, years 1 .. 4, whats 0 .. 3. */
    private static void toldPlaces() {
        noSuch("told, seed", 0, 2, Stocks::ran, (x, n) -> x.told(n, 1, 0));
        noSuch("told, year", 1, 4, Stocks::ran, (x, n) -> x.told(0, n, 0));
        noSuch("told, what", 0, 3, Stocks::ran, (x, n) -> x.told(0, 1, n));
        noSuch("told of one seed", 0, 0, CallsEdgesTest::small, (x, n) -> x.told(n, 1, 3));
        noSuch("told of one year", 1, 1, CallsEdgesTest::small, (x, n) -> x.told(0, n, 3));
        noSuchOfGreat("told, seed", 0, 15, (x, n) -> x.told(n, 20, 3));
        noSuchOfGreat("told, year", 1, 20, (x, n) -> x.told(15, n, 3));
        noSuchOfGreat("told, what", 0, 3, (x, n) -> x.told(15, 20, n));
    }

    /** Years 1 .. 4, parts 0 and 1. */
    private static void belowPlaces() {
        noSuch("below, year", 1, 4, Stocks::ran, (x, n) -> x.below(n, 1));
        noSuch("below, part", 0, 1, Stocks::ran, (x, n) -> x.below(4, n));
        noSuch("below of one year", 1, 1, CallsEdgesTest::small, (x, n) -> x.below(n, 0));
        noSuchOfGreat("below, year", 1, 20, (x, n) -> x.below(n, 0));
        noSuchOfGreat("below, part", 0, 1, (x, n) -> x.below(20, n));
    }

    private static void steadyPlaces() {
        noSuch("steady, seed", 0, 2, Stocks::ran, (x, n) -> x.steady(n));
        noSuch("steady of one seed", 0, 0, CallsEdgesTest::small, (x, n) -> x.steady(n));
        noSuchOfGreat("steady, seed", 0, 15, (x, n) -> x.steady(n));
    }

    /** "from one year to the next": of one year there is no such difference, and of an earlier RUN none either. */
    private static void steadyOfFewYears() {
        OutlookOdds x = Stocks.oneFish(1, 3, 1, 0);
        x.age(0, 1000, 1, 1000, 0);
        x.rule(0, 0, 500);
        x.run(1, 4, 1);
        // CAUGHT 500, 250 * 3, 125, 0: up, down, and down to nothing.
        Check.same("steady of four years", x.steady(0), 250 + 625 + 125);
        x.run(1, 3, 1);
        Check.same("steady of three years", x.steady(0), 250 + 625);
        x.run(1, 2, 1);
        Check.same("steady of two years", x.steady(0), 250);
        x.run(1, 1, 1);
        Check.same("steady of one year", x.steady(0), 0);
        x.run(0, 20, 1);
        Check.same("steady of no CAUGHT", x.steady(0), 0);
        OutlookOdds y = new OutlookOdds();
        for (int age = 0; age < 5; age++) {
            y.age(age, 100000, 10000, 1000, 1000);
        }
        y.rule(0, 0, 500);
        y.run(0, 2, 1);
        Check.same("steady to nothing, beyond an int", y.steady(0), 2500000000L);
    }

    private static void recoversPlaces() {
        noSuch("recovers, seed", 0, 2, Stocks::ran, (x, n) -> x.recovers(n, 1));
        noSuch("recovers of one seed", 0, 0, CallsEdgesTest::small, (x, n) -> x.recovers(n, 20));
        noSuchOfGreat("recovers, seed", 0, 15, (x, n) -> x.recovers(n, 20));
    }

    /** "span is not 1 .. 20", of a RUN of fewer years too. */
    private static void recoversSpans() {
        for (int out : Refused.outside(1, 20)) {
            Refused.wrongNumber("span " + out, Stocks::ran, x -> x.recovers(2, out));
            Refused.wrongNumber("span " + out + " of one year", CallsEdgesTest::small, x -> x.recovers(0, out));
        }
        OutlookOdds x = Stocks.plain(5);
        x.rule(0, 0, 0);
        x.run(0, 20, 1);
        for (int span = 1; span <= 20; span++) {
            Check.same("never below, span " + span, x.recovers(0, span), 1);
        }
        x.run(0, 19, 1);
        Check.same("19 of 19 years", x.recovers(0, 19), 1);
        Check.same("20 of 19 years", x.recovers(0, 20), OutlookOdds.NONE);
        x.run(0, 1, 1);
        Check.same("1 of one year", x.recovers(0, 1), 1);
        Check.same("2 of one year", x.recovers(0, 2), OutlookOdds.NONE);
    }

    /** "for so many years (itself one of them) of the RUN; NONE" */
    private static void recoversOfTheRun() {
        OutlookOdds x = Stocks.oneFish(1, 9, 1, 9, 9, 9);
        x.mark(9);
        x.run(0, 7, 2);
        int[] due = {2, 4, 4, 4, OutlookOdds.NONE, OutlookOdds.NONE};
        for (int span = 1; span <= due.length; span++) {
            Check.same("years 2 and 4 to 7, span " + span, x.recovers(1, span), due[span - 1]);
        }
        x.run(0, 4, 1);
        // The last year begins what the RUN does not end, and years of the RUN before are none of this.
        Check.same("year 4 is the last, span 1", x.recovers(0, 1), 2);
        Check.same("year 4 is the last, span 2", x.recovers(0, 2), OutlookOdds.NONE);
        x.run(0, 1, 1);
        Check.same("one year below", x.recovers(0, 1), OutlookOdds.NONE);
        OutlookOdds y = Stocks.oneFish(1, 1, 1, 1, 1, 9);
        y.mark(9);
        y.run(0, 6, 1);
        Check.same("the last year alone, span 1", y.recovers(0, 1), 6);
        Check.same("the last year alone, span 2", y.recovers(0, 2), OutlookOdds.NONE);
        y.mark(10);
        Check.same("none", y.recovers(0, 1), OutlookOdds.NONE);
    }

    /** Years 1 .. 4, places 0 .. 2: as many as there are seeds. */
    private static void rankPlaces() {
        noSuch("rank, year", 1, 4, Stocks::ran, (x, n) -> x.rank(n, 0));
        noSuch("rank, place", 0, 2, Stocks::ran, (x, n) -> x.rank(1, n));
        noSuch("rank of one year", 1, 1, CallsEdgesTest::small, (x, n) -> x.rank(n, 0));
        noSuch("rank of one seed", 0, 0, CallsEdgesTest::small, (x, n) -> x.rank(1, n));
        noSuchOfGreat("rank, year", 1, 20, (x, n) -> x.rank(n, 15));
        noSuchOfGreat("rank, place", 0, 15, (x, n) -> x.rank(20, n));
    }

    private static void rankOfLikeMasses() {
        OutlookOdds x = Stocks.youngOnly(7, 100);
        x.run(0, 2, 16);
        int[] due = {54, 59, 62, 65, 70, 73, 87, 95, 98, 103, 106, 122, 127, 130, 138, 147};
        for (int place = 0; place < 16; place++) {
            Check.same("like masses at " + place, x.rank(1, place), 7);
            Check.same("masses apart at " + place, x.rank(2, place), due[place]);
        }
        x.young(3);
        x.run(0, 2, 16);
        // Of 3 are born 1 for a D of 16 and less, 3 for one of 50 and more, 4 for one of 84 and more, else 2.
        int[] some = {1, 1, 1, 1, 2, 2, 2, 2, 2, 3, 3, 3, 3, 3, 4, 4};
        for (int place = 0; place < 16; place++) {
            Check.same("some like masses at " + place, x.rank(2, place), some[place]);
        }
        x.run(0, 2, 2);
        Check.same("the least of two", x.rank(2, 0), 1);
        Check.same("the greatest of two", x.rank(2, 1), 2);
    }

    private static void meanPlaces() {
        noSuch("mean, what", 0, 1, Stocks::ran, (x, n) -> x.mean(n, 0));
        noSuch("mean, part", 0, 1, Stocks::ran, (x, n) -> x.mean(1, n));
        noSuch("mean of one year, what", 0, 1, CallsEdgesTest::small, (x, n) -> x.mean(n, 1));
        noSuchOfGreat("mean, what", 0, 1, (x, n) -> x.mean(n, 0));
        noSuchOfGreat("mean, part", 0, 1, (x, n) -> x.mean(0, n));
    }

    private static void meanOfTheLastYear() {
        OutlookOdds x = Stocks.oneFish(2, 4, 7);
        x.age(0, 10, 2, 1000, 0);
        x.rule(0, 0, 500);
        x.run(1, 3, 4);
        // CAUGHT 5 * 2, 2 * 4 and 1 * 7 of each of 4 seeds; 3 fish of 7 are the MASS of year 3.
        Check.same("CAUGHT of 4 seeds in 3 years, above", x.mean(0, 0), 25);
        Check.same("CAUGHT of 4 seeds in 3 years, below", x.mean(0, 1), 3);
        Check.same("MASS of year 3, above", x.mean(1, 0), 21);
        Check.same("MASS of year 3, below", x.mean(1, 1), 1);
        x.run(1, 1, 4);
        Check.same("MASS of year 1, above", x.mean(1, 0), 20);
        Check.same("CAUGHT of one year, above", x.mean(0, 0), 10);
        Check.same("CAUGHT of one year, below", x.mean(0, 1), 1);
    }

    /** k is "0 .. 18". */
    private static void tablePlaces() {
        noSuch("table", 0, 18, Stocks::ran, (x, n) -> x.table(n));
        noSuchOfGreat("table", 0, 18, (x, n) -> x.table(n));
        noSuch("table of one year", 0, 18, CallsEdgesTest::small, (x, n) -> x.table(n));
        OutlookOdds x = Stocks.plain(1000);
        x.rule(0, 0, 333);
        x.run(0, 1, 16);
        for (int k = 0; k <= 18; k++) {
            Check.same("table(" + k + ")", x.table(k), 16L * 50 * k);
        }
    }

    private static void tableIs(String what, OutlookOdds x, int k, long due) {
        Check.same("table(" + k + ") of " + what, x.table(k), due);
    }

    /** "all being as it is now" */
    private static void tableAsItIsNow() {
        OutlookOdds x = Stocks.plain(1000);
        x.rule(1000, 2000, 600);
        x.run(0, 2, 1);
        tableIs("a MASS at LOW", x, 18, 0);
        x.age(0, 1500, 1, 1000, 0);
        tableIs("the NUMBER now", x, 18, 675);
        x.age(0, 1500, 2, 1000, 0);
        // A MASS of 3000 is above HIGH; 150 are left, of weight 1.
        tableIs("the WEIGHT now", x, 18, 2700);
        x.age(0, 1500, 2, 500, 0);
        tableIs("the RIPE now", x, 18, 2 * 675);
        x.age(0, 1500, 1, 1000, 0);
        x.age(1, 0, 2, 1000, 0);
        // 825 are left, of a MASS of 1650: 585 thousandths of it are a CATCH of 965, of which 482 are TAKEN.
        tableIs("the WEIGHT of age 1 now", x, 18, 675 + 2 * 482);
        x.age(0, 1500, 1, 1000, 500);
        // 413 are left when half of 825 have died: a MASS of 826 is below LOW.
        tableIs("the DIE now", x, 18, 675);
        x.change(0);
        // 675 of 826 may be caught: of 413 fish 337 are TAKEN.
        tableIs("the CHANGE now", x, 18, 675 + 2 * 337);
        x.change(1000);
        x.error(0, 1);
        // The MASS seen in year 2 is the 1500 of year 1: 450 thousandths of 826 are 371, and 185 are TAKEN.
        tableIs("the DELAY now", x, 18, 675 + 2 * 185);
        x.error(50, 0);
        // E is 42 less 50 in year 1: 1380 are seen, 342 thousandths allowed; 987 left, 494 of them alive.
        // E is 53 less 50 in year 2: 1017 of 988 are seen, 15 thousandths allowed: 14 by weight, 7 fish.
        tableIs("the SPREAD now", x, 18, 513 + 2 * 7);
        x.error(0, 0);
        x.young(2000);
        // 1180 are young in year 2; with 826 older ones the MASS is 2006, above HIGH: 1805 of 2006 are allowed.
        tableIs("the YOUNG now", x, 18, 675 + 1061 + 2 * 371);
        x.mark(MOST);
        tableIs("the MARK, which it does not ask", x, 18, 675 + 1061 + 2 * 371);
        tableIs("a RATE of 0", x, 0, 0);
        Check.same("what the RUN told is told", x.told(0, 1, MASS), 1000);
    }

    /** "if the latest RUN were done anew .. with a RATE of 50 * k in place of its RULE's": its LOW and HIGH stay. */
    private static void tableOfTheLatestRun() {
        OutlookOdds x = Stocks.plain(1000);
        x.rule(0, 0, 100);
        x.rule(1001, 1001, 100);
        x.rule(0, 2000, 100);
        x.run(0, 1, 16);
        tableIs("rule 0", x, 18, 16 * 900);
        x.run(1, 1, 16);
        tableIs("rule 1", x, 18, 0);
        x.run(2, 1, 3);
        tableIs("rule 2 and 3 seeds", x, 18, 3 * 450);
        tableIs("rule 2 and 3 seeds", x, 1, 3 * 25);
        x.run(2, 2, 1);
        // 450, and of 550 left 247 thousandths.
        tableIs("rule 2 and 2 years", x, 18, 450 + 135);
        Check.noSuchPlace("a refused run", () -> x.run(3, 1, 1));
        Check.wrongNumber("a refused run", () -> x.run(0, 1, 17));
        Check.wrongNumber("a refused run", () -> x.run(0, 0, 2));
        x.rule(0, 0, 900);
        tableIs("the RUN before refused ones", x, 18, 450 + 135);
        Check.same("tables are no RUNS", x.count(3), 4);
        Check.same("the rule keeps its RATE", x.run(2, 1, 1), 0);
        Check.same("the CATCH by its RATE", x.told(0, 1, CATCH), 50);
    }

    /** "The least k with the greatest table()" */
    private static void topIsTheLeast() {
        OutlookOdds x = new OutlookOdds();
        x.rule(0, 0, 900);
        x.run(0, 20, 16);
        Check.same("all are 0", x.top(), 0);
        topOf(1000, 18);
        topOf(1, 0);
        // No RATE takes the last of a few fish; the others are taken from 1000 * (fish - 1) / fish on.
        topOf(2, 10);
        topOf(3, 14);
        topOf(4, 15);
        topOf(5, 16);
        topOf(6, 17);
        topOf(7, 18);
        topOf(10, 18);
        topOfALow(1, 95, 100, 1, 1000);
        topOfALow(18, 99900, 10000, 10, 10000);
        OutlookOdds y = Stocks.plain(1000);
        y.rule(0, 0, 0);
        y.run(0, 20, 16);
        // From 500 on one fish alone is left in the end.
        Check.same("a like greatest from 10 on", y.top(), 10);
        Check.same("top by its table", y.table(10), 16 * 999);
        Check.same("the table beyond", y.table(18), 16 * 999);
        Check.same("the table before", y.table(9) < 16 * 999 ? 1 : 0, 1);
        Check.same("top is no RUN", y.count(3), 1);
    }

    /** Fish that are heavy in year 2, but caught then only if enough were left: at 50 or less, or at 1 or less. */
    private static void topOfALow(int due, int low, int fish, int weight, int weightThen) {
        OutlookOdds x = new OutlookOdds();
        x.age(0, fish, weight, 1000, 0);
        x.age(1, 0, weightThen, 1, 0);
        x.rule(low, low, 0);
        x.run(0, 2, 1);
        Check.same("top of " + fish + " fish at a LOW of " + low, x.top(), due);
    }

    private static void topOf(int fish, int due) {
        OutlookOdds x = Stocks.plain(fish);
        x.rule(0, 0, 0);
        x.run(0, 1, 1);
        Check.same("top of " + fish + " fish", x.top(), due);
    }

    // Promise 18

    /** "YEARS (1) and SEEDS (2) of the RUN (0 without)" */
    private static void countWithoutARun() {
        OutlookOdds x = Stocks.set();
        int[] due = {3, 0, 0, 0};
        for (int what = 0; what < 4; what++) {
            Check.same("count(" + what + ") without a RUN", x.count(what), due[what]);
        }
        Check.wrongNumber("a refused run", () -> x.run(0, 20, 17));
        for (int what = 0; what < 4; what++) {
            Check.same("count(" + what + ") after a refused one", x.count(what), due[what]);
        }
        x.run(0, 20, 16);
        x.run(0, 1, 2);
        int[] then = {3, 1, 2, 2};
        for (int what = 0; what < 4; what++) {
            Check.same("count(" + what + ") after two RUNS", x.count(what), then[what]);
        }
    }

    /** "NONE for another what" */
    private static void countOfAnotherWhat() {
        Check.same("NONE", OutlookOdds.NONE, -1);
        for (int what : Refused.outside(0, 3)) {
            Check.same("count(" + what + ") of a new object", new OutlookOdds().count(what), -1);
            Check.same("count(" + what + ") after a RUN", Stocks.ran().count(what), -1);
        }
    }
}
