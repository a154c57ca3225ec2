import java.util.Arrays;
import java.util.function.Consumer;

/** "What it is" and "Terms": each sentence that names a boundary case, on both sides of it, by hand-worked answers. */
public final class TermsEdgesTest {
    private static final int LEAST = Integer.MIN_VALUE;
    private static final int MOST = Integer.MAX_VALUE;

    private static final int MASS = 0;
    private static final int CAUGHT = 1;
    private static final int CATCH = 2;
    private static final int SEEN = 3;

    public static void main(String[] args) {
        usedFor512Calls();
        usedFor512RefusedCalls();
        objectsAreApart();
        allZeroAtFirst();

        ruleForAMassBelowLow();
        ruleFromHighOn();
        ruleBetween();
        ruleWithNothingBetween();
        ruleOfTheGreatestMasses();
        ruleIsAskedForWhatIsSeen();

        drawWrapsAround();
        drawOfNumbersBelowZero();
        drawIsWithoutSign();

        eachSeedBeginsWithTheNumbersAsTheyAre();
        massRoundsEachAge();
        seenIsOfYear1IfThereIsNoneSuch();
        seenByEHundredths();
        seenIsRoundedDown();
        changeLimitsFromYear2On();
        changeLimitsIfItIsBelow1000();
        changeLimitsUpward();
        changeLimitsDownward();
        catchIsNeverMoreThanTotal();
        takenIsZeroIfTotalIsZero();
        takenIsAllIfTheCatchIsTotal();
        diedOfThoseLeft();
        allAreAYearOlder();
        fromAge4To5WhereTheyStay();
        youngByTheirDraw();

        toldTillTheNextRun();
        markIsAskedAsItIs();
        fractionsWithoutACommonDivisor();
        fractionsBelow1AtLeast();

        portraitTellsEveryChange();
        theExceptionNamedFirst();
        Check.end();
    }

    // What it is

    /** "An object is used for at most 512 calls after it has been made": the 512th is still answered as due. */
    private static void usedFor512Calls() {
        OutlookOdds runs = new OutlookOdds();
        runs.age(0, 1000, 1, 1000, 0);
        runs.rule(0, 0, 500);
        for (int call = 3; call < 512; call++) {
            runs.run(0, 20, 16);
        }
        Check.same("call 512, count of runs", runs.count(3), 509);

        OutlookOdds tops = Stocks.plain(1000);
        tops.rule(0, 0, 0);
        tops.run(0, 20, 16);
        // From a RATE of 500 on one fish alone is left in the end; below it, two at least.
        for (int call = 9; call < 512; call++) {
            Check.same("call " + call + ", top", tops.top(), 10);
        }
        Check.same("call 512, told", tops.told(15, 20, MASS), 1000);

        OutlookOdds settings = new OutlookOdds();
        settings.mark(0);
        for (int call = 2; call < 512; call++) {
            Check.same("call " + call + ", mark", settings.mark(call), call == 2 ? 0 : call - 1);
        }
        Check.same("call 512, mark", settings.mark(0), 511);
    }

    private static void usedFor512RefusedCalls() {
        OutlookOdds x = new OutlookOdds();
        for (int call = 1; call < 509; call += 4) {
            Check.wrongState("call " + call + ", told", () -> x.told(0, 1, 0));
            Check.noSuchPlace("call " + (call + 1) + ", run", () -> x.run(0, 1, 1));
            Check.wrongNumber("call " + (call + 2) + ", rule", () -> x.rule(1, 0, 0));
            Check.noSuchPlace("call " + (call + 3) + ", age", () -> x.age(6, 0, 0, 0, 0));
        }
        Check.same("call 509, rule", x.rule(0, 0, 0), 0);
        Check.same("call 510, run", x.run(0, 1, 1), 0);
        Check.same("call 511, count", x.count(3), 1);
        Check.same("call 512, told", x.told(0, 1, 0), 0);
    }

    private static void objectsAreApart() {
        OutlookOdds x = Stocks.full();
        OutlookOdds y = new OutlookOdds();
        Refused.sameStock("a new object beside another", y, new OutlookOdds());
        Refused.sameStock("an object beside a new one", x, Stocks.full());
    }

    // Terms: AGES, YOUNG

    /** "(all 0 at first). YOUNG is 0 at first." */
    private static void allZeroAtFirst() {
        OutlookOdds x = new OutlookOdds();
        x.rule(0, 0, 900);
        x.run(0, 20, 16);
        for (int what = 0; what < 4; what++) {
            Check.same("no fish in year 1, what " + what, x.told(0, 1, what), 0);
            Check.same("no fish in year 20, what " + what, x.told(15, 20, what), 0);
        }
        Check.same("YOUNG at first", x.young(0), 0);
        // Age 0 alone is told: what comes to age 1 weighs 0 there.
        x.age(0, 5, 7, 1000, 0);
        x.run(0, 2, 1);
        Check.same("age 0 alone, year 1", x.told(0, 1, MASS), 35);
        Check.same("age 0 alone, year 2", x.told(0, 2, MASS), 0);
        // Ages 1 to 4 were never told: there fish weigh nothing, none is caught, and none dies.
        x.age(5, 0, 1, 1000, 0);
        x.age(0, 1000, 0, 1000, 0);
        x.run(0, 6, 1);
        for (int year = 1; year <= 5; year++) {
            Check.same("ages never told, MASS in year " + year, x.told(0, year, MASS), 0);
            Check.same("ages never told, CATCH in year " + year, x.told(0, year, CATCH), 0);
        }
        Check.same("none died on the way", x.told(0, 6, MASS), 1000);
    }

    // Terms: a RULE

    /** What a rule allows for a mass of 0 .. 100000: the TOTAL is 100000, so that the CATCH is hundredfold. */
    private static void allows(long due, int mass, int low, int high, int rate) {
        OutlookOdds x = new OutlookOdds();
        x.age(0, mass, 1, 1000, 0);
        x.age(1, 100000 - mass, 1, 0, 0);
        x.rule(low, high, rate);
        x.run(0, 1, 1);
        String what = "mass " + mass + " by LOW " + low + ", HIGH " + high + ", RATE " + rate;
        Check.same(what, x.told(0, 1, CATCH), 100 * due);
        Check.same(what + ", CAUGHT of both ages", x.told(0, 1, CAUGHT),
            mass * 100 * due / 100000 + (100000 - mass) * 100 * due / 100000);
    }

    /** "for a mass below LOW it allows 0" */
    private static void ruleForAMassBelowLow() {
        allows(0, 0, 500, 1000, 900);
        allows(0, 499, 500, 1000, 900);
        allows(0, 500, 500, 1000, 900);
        allows(1, 501, 500, 1000, 900);
        allows(0, 0, 1, 2, 900);
        allows(0, 99999, 100000, 100000, 900);
        allows(900, 100000, 100000, 100000, 900);
        allows(0, 100000, 100001, 100001, 900);
    }

    /** "from HIGH on RATE" */
    private static void ruleFromHighOn() {
        allows(898, 999, 500, 1000, 900);
        allows(900, 1000, 500, 1000, 900);
        allows(900, 1001, 500, 1000, 900);
        allows(900, 100000, 500, 1000, 900);
        allows(1, 1000, 500, 1000, 1);
        allows(0, 1000, 500, 1000, 0);
    }

    /** "between FLOOR(RATE * (mass - LOW) / (HIGH - LOW))" */
    private static void ruleBetween() {
        int[] due = {0, 0, 1, 2, 2, 3, 4, 4, 5, 6, 7};
        for (int more = 0; more <= 10; more++) {
            allows(due[more], more, 0, 10, 7);
            allows(due[more], 5000 + more, 5000, 5010, 7);
        }
        allows(0, 5, 0, 10, 0);
        allows(0, 5, 0, 10, 1);
        allows(0, 100000, 0, 2000000000, 900);
        allows(0, 100000, 99999, 2000000000, 900);
    }

    private static void ruleWithNothingBetween() {
        allows(0, 699, 700, 700, 450);
        allows(450, 700, 700, 700, 450);
        allows(450, 701, 700, 700, 450);
        allows(0, 699, 700, 701, 450);
        allows(0, 700, 700, 701, 450);
        allows(450, 701, 700, 701, 450);
        // A MASS of 0 is not below a LOW of 0, and a HIGH of 0 is reached.
        allows(450, 0, 0, 0, 450);
        allows(450, 1, 0, 0, 450);
        allows(0, 0, 0, 1, 450);
        allows(450, 1, 0, 1, 450);
        allows(0, 0, 1, 1, 450);
        allows(450, 1, 1, 1, 450);
    }

    private static void allowsOfTotal(long due, long mass, int low, int high) {
        OutlookOdds x = Stocks.ofMass(mass);
        x.rule(low, high, 900);
        x.run(0, 1, 1);
        String what = "mass " + mass + " by LOW " + low + ", HIGH " + high;
        Check.same(what + ", MASS", x.told(0, 1, MASS), mass);
        Check.same(what + ", CATCH", x.told(0, 1, CATCH), due);
    }

    private static void ruleOfTheGreatestMasses() {
        int most = 2000000000;
        allowsOfTotal(0, 1999999999L, most, most);
        allowsOfTotal(1800000000L, 2000000000L, most, most);
        allowsOfTotal(1800000000L, 2000000001L, most, most);
        // 899 thousandths of a fish less than HIGH.
        allowsOfTotal(1797999999L, 1999999999L, 0, most);
        allowsOfTotal(1800000000L, 2000000000L, 0, most);
        allowsOfTotal(0, 1999999998L, most - 1, most);
        allowsOfTotal(0, 1999999999L, most - 1, most);
        allowsOfTotal(1800000000L, 2000000000L, most - 1, most);
        // An int ends at 2147483647 and is 5 again at 4294967301.
        allowsOfTotal(1932735282L, 2147483647L, most, most);
        allowsOfTotal(1932735283L, 2147483648L, most, most);
        allowsOfTotal(3865470570L, 4294967301L, most, most);
    }

    private static void ruleIsAskedForWhatIsSeen() {
        OutlookOdds x = Stocks.plain(1000);
        x.error(10, 0);
        x.rule(1030, 1030, 500);
        x.rule(1031, 1031, 500);
        x.run(0, 1, 1);
        // draw(0, 1, 1) is 59632, and 59632 modulo 21 is 13: 3 hundredths more than the MASS of 1000.
        Check.same("SEEN", x.told(0, 1, SEEN), 1030);
        Check.same("SEEN at LOW", x.told(0, 1, CATCH), 500);
        x.run(1, 1, 1);
        Check.same("SEEN below LOW", x.told(0, 1, CATCH), 0);
    }

    // Terms: a DRAW

    private static void draws(int due, int seed, int year, int which) {
        OutlookOdds x = new OutlookOdds();
        Check.same("draw(" + seed + ", " + year + ", " + which + ")", x.draw(seed, year, which), due);
    }

    /** "(ints)": the sum and the products wrap around. */
    private static void drawWrapsAround() {
        draws(54236, 0, 0, 0);
        draws(38526, 0, 0, 1);
        draws(25996, 1, 0, 0);
        draws(52771, 15, 20, 0);
        draws(37061, 15, 20, 1);
        draws(49707, MOST, 0, 0);
        draws(361, 0, MOST, 0);
        draws(37177, 0, 0, MOST);
        draws(44310, MOST, MOST, MOST);
        // 31 * 69273666 is 2147483646: one more is the greatest int, and two more the least.
        draws(37177, 69273666, 0, 1);
        draws(21468, 69273666, 0, 2);
        draws(21468, 0, 0, LEAST);
    }

    private static void drawOfNumbersBelowZero() {
        draws(16939, -1, 0, 0);
        draws(33129, 0, -1, 0);
        draws(4409, 0, 0, -1);
        draws(11542, -1, -1, -1);
        draws(21468, LEAST, 0, 0);
        draws(21468, 0, LEAST, 0);
        draws(21468, LEAST, LEAST, LEAST);
        draws(54236, 7, -31, 0);
        draws(54236, -1, 4, 3);
    }

    /** "shifted down by 16 without sign": 0 .. 65535, and from 32768 on x was below 0. */
    private static void drawIsWithoutSign() {
        draws(0, 0, 0, 119241);
        draws(0, 0, 0, -3772);
        draws(32767, 0, 0, 5287);
        draws(32768, 0, 0, 50242);
        draws(65535, 0, 0, 89271);
        draws(65535, 0, 0, -48727);
        // What is shifted out is 0, or all of 16 bits.
        draws(1511, 0, 0, 39218);
        draws(41040, 0, 0, 104754);
        draws(26162, 0, 0, 857);
        draws(39684, 0, 0, 131929);
    }

    // Terms: a year of a seed

    /** "each seed begins with the NUMBERS as they are" */
    private static void eachSeedBeginsWithTheNumbersAsTheyAre() {
        OutlookOdds x = Stocks.plain(1000);
        x.rule(0, 0, 900);
        x.run(0, 20, 16);
        Check.same("seed 0, year 20", x.told(0, 20, MASS), 1);
        for (int seed = 0; seed < 16; seed++) {
            Check.same("seed " + seed + ", year 1", x.told(seed, 1, MASS), 1000);
        }
        x.run(0, 1, 16);
        Check.same("a RUN more, first seed", x.told(0, 1, MASS), 1000);
        Check.same("a RUN more, last seed", x.told(15, 1, MASS), 1000);
        x.age(0, 999, 1, 1000, 0);
        x.run(0, 1, 16);
        Check.same("another NUMBER, first seed", x.told(0, 1, MASS), 999);
        Check.same("another NUMBER, last seed", x.told(15, 1, MASS), 999);
    }

    private static void massOfTwoAges(long due, int number, int ripe) {
        OutlookOdds x = new OutlookOdds();
        x.age(0, number, 1, ripe, 0);
        x.age(5, number, 1, ripe, 0);
        x.rule(0, 0, 0);
        x.run(0, 1, 1);
        Check.same("MASS of twice " + number + " at RIPE " + ripe, x.told(0, 1, MASS), due);
    }

    /** "MASS is the sum over ages of FLOOR(NUMBER * WEIGHT * RIPE / 1000)" */
    private static void massRoundsEachAge() {
        massOfTwoAges(0, 100000, 0);
        massOfTwoAges(0, 999, 1);
        massOfTwoAges(2, 1000, 1);
        massOfTwoAges(2, 1999, 1);
        massOfTwoAges(4, 2000, 1);
        massOfTwoAges(0, 1, 999);
        massOfTwoAges(2, 1, 1000);
        massOfTwoAges(0, 0, 1000);
    }

    /** "SEEN is the MASS of DELAY years before (of year 1, if there is none such)" */
    private static void seenIsOfYear1IfThereIsNoneSuch() {
        OutlookOdds x = Stocks.oneFish(1, 20, 300, 4000, 5000, 6000);
        int[][] due = {
            {1, 20, 300, 4000, 5000, 6000},
            {1, 1, 20, 300, 4000, 5000},
            {1, 1, 1, 20, 300, 4000},
            {1, 1, 1, 1, 20, 300},
        };
        for (int delay = 0; delay <= 3; delay++) {
            x.error(0, delay);
            x.run(0, 6, 2);
            for (int year = 1; year <= 6; year++) {
                long seen = due[delay][year - 1];
                Check.same("DELAY " + delay + ", year " + year, x.told(0, year, SEEN), seen);
                Check.same("DELAY " + delay + ", year " + year + ", seed 1", x.told(1, year, SEEN), seen);
            }
        }
        x.run(0, 1, 1);
        Check.same("DELAY 3 in a RUN of one year", x.told(0, 1, SEEN), 1);
    }

    private static void sees(OutlookOdds x, int seed, int year, long due) {
        Check.same("SEEN of seed " + seed + " in year " + year, x.told(seed, year, SEEN), due);
    }

    /** "E being the DRAW of which 1 modulo (2 * SPREAD + 1), less SPREAD": from less SPREAD to SPREAD. */
    private static void seenByEHundredths() {
        OutlookOdds x = Stocks.plain(1000);
        x.rule(0, 0, 0);
        x.error(50, 0);
        x.run(0, 20, 16);
        sees(x, 1, 9, 1500);
        sees(x, 1, 14, 1490);
        sees(x, 1, 18, 500);
        sees(x, 13, 1, 510);
        sees(x, 13, 2, 1500);
        sees(x, 0, 3, 1000);
        x.error(1, 0);
        x.run(0, 3, 1);
        sees(x, 0, 1, 1000);
        sees(x, 0, 2, 1010);
        sees(x, 0, 3, 990);
        x.error(0, 0);
        x.run(0, 20, 16);
        for (int year = 1; year <= 20; year++) {
            sees(x, 13, year, 1000);
        }
        // E is of the year that sees, the MASS of the year before it.
        OutlookOdds y = Stocks.oneFish(1000, 2000, 3000);
        y.error(1, 1);
        y.run(0, 3, 1);
        sees(y, 0, 1, 1000);
        sees(y, 0, 2, 1010);
        sees(y, 0, 3, 1980);
    }

    private static void seesInYears2And3(int mass, long more, long less) {
        OutlookOdds x = Stocks.plain(mass);
        x.rule(0, 0, 0);
        x.error(1, 0);
        x.run(0, 3, 1);
        Check.same("a hundredth more than " + mass, x.told(0, 2, SEEN), more);
        Check.same("a hundredth less than " + mass, x.told(0, 3, SEEN), less);
    }

    /** "FLOOR(it * (100 + E) / 100)" */
    private static void seenIsRoundedDown() {
        seesInYears2And3(0, 0, 0);
        seesInYears2And3(1, 1, 0);
        seesInYears2And3(99, 99, 98);
        seesInYears2And3(100, 101, 99);
        seesInYears2And3(101, 102, 99);
    }

    private static void catches(String what, OutlookOdds x, int seed, int... due) {
        for (int i = 0; i < due.length; i++) {
            Check.same(what + ", CATCH of seed " + seed + " in year " + (i + 1), x.told(seed, i + 1, CATCH), due[i]);
        }
    }

    /** "from year 2 on": neither another seed's last year nor another RUN's limits year 1. */
    private static void changeLimitsFromYear2On() {
        OutlookOdds x = Stocks.plain(1000);
        x.rule(0, 0, 500);
        x.change(0);
        for (int times = 0; times < 2; times++) {
            x.run(0, 3, 2);
            catches("CHANGE 0", x, 0, 500, 500, 0);
            catches("CHANGE 0", x, 1, 500, 500, 0);
        }
        x.run(0, 1, 2);
        catches("CHANGE 0 in a RUN of one year", x, 1, 500);
        Check.same("CHANGE 0 in the table", x.table(10), 1000);
        x.run(0, 2, 1);
        Check.same("CHANGE 0 in the table of two years", x.table(8), 800);
    }

    /** Fish of which the rule catches the first year's part, and what it catches in year 2 under a CHANGE. */
    private static void changedFrom(int first, int change, int due, OutlookOdds x) {
        x.change(change);
        x.run(0, 2, 1);
        catches("CHANGE " + change, x, 0, first, due);
    }

    /** "if CHANGE is below 1000" */
    private static void changeLimitsIfItIsBelow1000() {
        OutlookOdds up = new OutlookOdds();
        up.age(0, 100, 1, 0, 0);
        up.age(1, 0, 1, 1000, 0);
        up.rule(1, 1, 500);
        changedFrom(0, 1000, 50, up);
        changedFrom(0, 999, 0, up);
        changedFrom(0, 0, 0, up);

        OutlookOdds down = Stocks.plain(1000);
        down.rule(1000, 1000, 500);
        changedFrom(500, 1000, 0, down);
        changedFrom(500, 999, 1, down);
        changedFrom(500, 0, 500, down);
    }

    /** "with c the CATCH of the year before and m = FLOOR(c * CHANGE / 1000), at most c + m": the rule allows 36. */
    private static void changeLimitsUpward() {
        OutlookOdds x = new OutlookOdds();
        x.age(0, 100, 1, 1000, 0);
        x.age(1, 0, 4, 1000, 0);
        x.rule(0, 0, 100);
        changedFrom(10, 1000, 36, x);
        changedFrom(10, 999, 19, x);
        changedFrom(10, 900, 19, x);
        changedFrom(10, 899, 18, x);
        changedFrom(10, 100, 11, x);
        changedFrom(10, 99, 10, x);
        changedFrom(10, 0, 10, x);
        // With a weight of 2 the rule allows 18.
        x.age(1, 0, 2, 1000, 0);
        changedFrom(10, 799, 17, x);
        changedFrom(10, 800, 18, x);
        changedFrom(10, 900, 18, x);
    }

    /** "and at least c - m": the rule allows 250. */
    private static void changeLimitsDownward() {
        OutlookOdds x = Stocks.plain(1000);
        x.rule(0, 0, 500);
        changedFrom(500, 1000, 250, x);
        changedFrom(500, 501, 250, x);
        changedFrom(500, 500, 250, x);
        changedFrom(500, 499, 251, x);
        changedFrom(500, 2, 499, x);
        changedFrom(500, 1, 500, x);
        changedFrom(500, 0, 500, x);
    }

    /** "and never more than TOTAL": of 500 left none, one, or all die. */
    private static void catchIsNeverMoreThanTotal() {
        OutlookOdds x = Stocks.plain(1000);
        x.rule(0, 0, 500);
        x.rule(0, 0, 499);
        changedFrom(500, 0, 500, x);
        Check.same("CATCH is TOTAL", x.told(0, 2, MASS), 500);
        Check.same("CATCH is TOTAL, all CAUGHT", x.told(0, 2, CAUGHT), 500);
        x.age(0, 1000, 1, 1000, 2);
        changedFrom(500, 0, 499, x);
        Check.same("TOTAL is less by one", x.told(0, 2, MASS), 499);
        Check.same("TOTAL is less by one, all CAUGHT", x.told(0, 2, CAUGHT), 499);
        x.age(0, 1000, 1, 1000, 1000);
        changedFrom(500, 0, 0, x);
        x.age(0, 1000, 1, 1000, 0);
        x.run(1, 3, 1);
        catches("TOTAL is more by two, then 2", x, 0, 499, 499, 2);
        Check.same("TOTAL is more by two", x.told(0, 2, MASS), 501);
        Check.same("TOTAL is more by two, CAUGHT", x.told(0, 2, CAUGHT), 499);
    }

    /** "(0 if TOTAL is 0)": fish without weight are there, and stay. */
    private static void takenIsZeroIfTotalIsZero() {
        OutlookOdds x = new OutlookOdds();
        x.age(0, 10, 0, 1000, 0);
        x.age(1, 0, 1, 1000, 0);
        x.rule(0, 0, 900);
        x.run(0, 2, 1);
        Check.same("MASS of a TOTAL of 0", x.told(0, 1, MASS), 0);
        Check.same("CATCH of a TOTAL of 0", x.told(0, 1, CATCH), 0);
        Check.same("CAUGHT of a TOTAL of 0", x.told(0, 1, CAUGHT), 0);
        Check.same("none were TAKEN", x.told(0, 2, MASS), 10);
        Check.same("and they are caught when they weigh", x.told(0, 2, CAUGHT), 9);
    }

    private static void takenIsAllIfTheCatchIsTotal() {
        OutlookOdds x = new OutlookOdds();
        x.age(0, 10, 0, 1000, 0);
        x.age(2, 0, 1, 1000, 0);
        x.age(5, 2, 1, 1000, 0);
        x.rule(0, 0, 500);
        x.change(0);
        x.run(0, 3, 1);
        // Half of the 10 are TAKEN too; then one of a TOTAL of 1, and with it all others.
        catches("to a TOTAL of 1 and 0", x, 0, 1, 1, 0);
        Check.same("CAUGHT of a TOTAL of 2", x.told(0, 1, CAUGHT), 1);
        Check.same("MASS of a TOTAL of 1", x.told(0, 2, MASS), 1);
        Check.same("CAUGHT of a TOTAL of 1", x.told(0, 2, CAUGHT), 1);
        Check.same("nothing is left", x.told(0, 3, MASS), 0);
        x.change(1000);
        x.run(0, 3, 1);
        // A half of a TOTAL of 1 is no CATCH.
        catches("half of a TOTAL of 1", x, 0, 1, 0, 3);
        Check.same("5 and 1 are left", x.told(0, 3, MASS), 6);
    }

    private static void leaves(long due, int number, int rate, int die) {
        OutlookOdds x = Stocks.plain(number);
        x.age(0, number, 1, 1000, die);
        x.rule(0, 0, rate);
        x.run(0, 2, 1);
        Check.same("left of " + number + " at RATE " + rate + ", DIE " + die, x.told(0, 2, MASS), due);
    }

    /** "Of those left FLOOR(NUMBER * DIE / 1000) go." */
    private static void diedOfThoseLeft() {
        leaves(100000, 100000, 0, 0);
        leaves(999, 999, 0, 1);
        leaves(999, 1000, 0, 1);
        leaves(1, 1, 0, 999);
        leaves(0, 1, 0, 1000);
        leaves(1, 1000, 0, 999);
        leaves(0, 100000, 0, 1000);
        leaves(499, 1000, 500, 3);
        leaves(500, 1000, 500, 1);
        leaves(0, 0, 500, 500);
    }

    /** "Then all are a year older" */
    private static void allAreAYearOlder() {
        OutlookOdds x = new OutlookOdds();
        int[] weights = {1, 10, 100, 1000, 10000, 7};
        for (int age = 0; age < 6; age++) {
            x.age(age, age + 1, weights[age], 1000, 0);
        }
        x.rule(0, 0, 0);
        x.run(0, 20, 1);
        long[] due = {54363, 43287, 32205, 21126, 10140, 147, 147};
        for (int i = 0; i < due.length; i++) {
            Check.same("fish of all ages in year " + (i + 1), x.told(0, i + 1, MASS), due[i]);
        }
        Check.same("fish of all ages in year 20", x.told(0, 20, MASS), 147);
    }

    /** "from age 4 to 5, where they stay, too" */
    private static void fromAge4To5WhereTheyStay() {
        OutlookOdds x = new OutlookOdds();
        x.age(4, 10, 1, 1000, 0);
        x.age(5, 20, 1, 1000, 0);
        x.rule(0, 0, 0);
        x.run(0, 20, 1);
        Check.same("ages 4 and 5, year 1", x.told(0, 1, MASS), 30);
        Check.same("ages 4 and 5, year 2", x.told(0, 2, MASS), 30);
        Check.same("ages 4 and 5, year 20", x.told(0, 20, MASS), 30);
        x.age(5, 20, 1, 1000, 500);
        x.run(0, 4, 1);
        // 10 + 20, 10 + 10, 10, 5: those of age 4 die as age 4 does, and from then on as age 5.
        Check.same("half of age 5 die, year 2", x.told(0, 2, MASS), 20);
        Check.same("half of age 5 die, year 3", x.told(0, 3, MASS), 10);
        Check.same("half of age 5 die, year 4", x.told(0, 4, MASS), 5);
        x.age(4, 10, 1, 1000, 1000);
        x.age(5, 20, 1, 1000, 0);
        x.run(0, 2, 1);
        Check.same("all of age 4 die", x.told(0, 2, MASS), 20);
    }

    private static void born(OutlookOdds x, int seed, int year, long due) {
        Check.same("born to seed " + seed + " in year " + year, x.told(seed, year + 1, MASS), due);
    }

    /** "age 0 gets FLOOR(YOUNG * (50 + D) / 100), D being the DRAW of which 0 modulo 101": D from 0 to 100. */
    private static void youngByTheirDraw() {
        OutlookOdds x = Stocks.youngOnly(77, 100);
        x.run(0, 20, 16);
        Check.same("year 1 is before the first young", x.told(2, 1, MASS), 77);
        born(x, 0, 1, 59);
        born(x, 2, 16, 50);
        born(x, 5, 19, 150);
        born(x, 1, 6, 99);
        born(x, 7, 2, 100);
        int[][] due = {{0, 0, 0, 0, 0}, {1, 0, 0, 1, 1}, {2, 1, 1, 2, 3}, {100000, 50000, 99000, 100000, 150000}};
        for (int[] row : due) {
            x.young(row[0]);
            x.run(0, 20, 16);
            born(x, 2, 16, row[1]);
            born(x, 1, 6, row[2]);
            born(x, 7, 2, row[3]);
            born(x, 5, 19, row[4]);
        }
    }

    // Terms: what was told

    /** "What a RUN told is told till the next one" */
    private static void toldTillTheNextRun() {
        OutlookOdds x = Stocks.plain(1000);
        x.rule(0, 0, 500);
        x.run(0, 3, 2);
        x.age(0, 7, 7, 7, 7);
        x.young(100000);
        x.change(0);
        x.error(50, 3);
        x.rule(0, 0, 0);
        x.table(18);
        x.top();
        Check.noSuchPlace("a refused run", () -> x.run(2, 1, 1));
        Check.wrongNumber("a refused run", () -> x.run(1, 21, 1));
        Check.wrongNumber("a refused run", () -> x.run(1, 20, 17));
        int[] due = {250, 125, 125, 250};
        for (int what = 0; what < 4; what++) {
            Check.same("still told, what " + what, x.told(1, 3, what), due[what]);
        }
        Check.same("still steady", x.steady(1), 375);
        Check.same("still in rank", x.rank(3, 1), 250);
        Check.same("still the mean", x.mean(0, 0), 875);
        Check.same("still the years", x.count(1), 3);
        Check.same("still the seeds", x.count(2), 2);
        x.run(1, 1, 1);
        // FLOOR(7 * 7 * 7 / 1000) is 0, and a TOTAL of 49 is there.
        Check.same("the next one's MASS", x.told(0, 1, MASS), 0);
        Check.same("the next one's CATCH", x.told(0, 1, CATCH), 0);
        Check.noSuchPlace("a year of the one before", () -> x.told(0, 2, MASS));
        Check.noSuchPlace("a seed of the one before", () -> x.told(1, 1, MASS));
    }

    /** "the MARK is asked as it is" */
    private static void markIsAskedAsItIs() {
        OutlookOdds x = Stocks.plain(1000);
        x.rule(0, 0, 0);
        Check.same("a RUN at a MARK of 0", x.run(0, 2, 3), 0);
        x.mark(1001);
        Check.same("below 1001, above", x.below(2, 0), 1);
        Check.same("below 1001, below", x.below(2, 1), 1);
        Check.same("recovers at 1001", x.recovers(2, 1), OutlookOdds.NONE);
        x.mark(1000);
        Check.same("below 1000, above", x.below(2, 0), 0);
        Check.same("below 1000, below", x.below(2, 1), 1);
        Check.same("recovers at 1000", x.recovers(2, 2), 1);
        x.mark(999);
        Check.same("below 999", x.below(2, 0), 0);
        x.mark(1001);
        Check.same("a RUN at a MARK of 1001", x.run(0, 2, 3), 3);
    }

    /** Masses of year 2 that are all apart, so that a MARK at the next of them has so many below. */
    private static void belowOf(int seeds, int[] masses, int[] above, int[] below) {
        OutlookOdds x = Stocks.youngOnly(0, 100);
        x.run(0, 2, seeds);
        for (int fewer = 0; fewer <= seeds; fewer++) {
            x.mark(fewer < seeds ? masses[fewer] : masses[seeds - 1] + 1);
            Check.same(fewer + " of " + seeds + ", above", x.below(2, 0), above[fewer]);
            Check.same(fewer + " of " + seeds + ", below", x.below(2, 1), below[fewer]);
        }
    }

    private static void meanOf(String what, OutlookOdds x, int which, long above, long below) {
        Check.same("mean of " + what + ", above", x.mean(which, 0), above);
        Check.same("mean of " + what + ", below", x.mean(which, 1), below);
    }

    /** "Fractions are told above (part = 0) and below (1), without a common divisor" */
    private static void fractionsWithoutACommonDivisor() {
        belowOf(16, new int[] {54, 59, 62, 65, 70, 73, 87, 95, 98, 103, 106, 122, 127, 130, 138, 147},
            new int[] {0, 1, 1, 3, 1, 5, 3, 7, 1, 9, 5, 11, 3, 13, 7, 15, 1},
            new int[] {1, 16, 8, 16, 4, 16, 8, 16, 2, 16, 8, 16, 4, 16, 8, 16, 1});
        belowOf(6, new int[] {54, 59, 87, 95, 122, 127},
            new int[] {0, 1, 1, 1, 2, 5, 1},
            new int[] {1, 6, 3, 2, 3, 6, 1});
        belowOf(1, new int[] {59}, new int[] {0, 1}, new int[] {1, 1});

        OutlookOdds x = Stocks.youngOnly(3, 100);
        x.run(0, 2, 3);
        meanOf("59, 87 and 127", x, 1, 91, 1);
        x.run(0, 2, 2);
        meanOf("59 and 87", x, 1, 73, 1);
        x.run(0, 2, 5);
        meanOf("59, 87, 127, 54 and 95", x, 1, 422, 5);
        x.run(0, 2, 4);
        meanOf("59, 87, 127 and 54", x, 1, 327, 4);
        x.run(0, 2, 6);
        meanOf("59, 87, 127, 54, 95 and 122", x, 1, 272, 3);
    }

    /** "below 1 at least" */
    private static void fractionsBelow1AtLeast() {
        OutlookOdds x = new OutlookOdds();
        x.rule(0, 0, 900);
        for (int seeds = 1; seeds <= 16; seeds += 5) {
            x.run(0, 20, seeds);
            Check.same("none of " + seeds + ", above", x.below(20, 0), 0);
            Check.same("none of " + seeds + ", below", x.below(20, 1), 1);
            meanOf("no CAUGHT", x, 0, 0, 1);
            meanOf("no MASS", x, 1, 0, 1);
        }
        OutlookOdds y = Stocks.ofMass(4294967301L);
        y.rule(0, 0, 0);
        y.run(0, 1, 16);
        meanOf("a MASS beyond an int", y, 1, 4294967301L, 1);
        y.rule(0, 0, 900);
        y.run(1, 1, 1);
        // CATCH is a little less than 900 thousandths of TOTAL, so that 89999 of each 100000 are TAKEN.
        meanOf("a CAUGHT beyond an int", y, 0, 4 * 899990000L + 265460000L + 6570L, 1);
    }

    // Terms: what a call throws

    /** "A call that throws changes nothing" is tested by portraits: here, that a portrait tells every change. */
    private static void portraitTellsEveryChange() {
        for (int age = 0; age < 6; age++) {
            int of = age;
            int[] was = {4000, 10, 0, 300, 3000, 20, 100, 200, 2000, 50, 500, 150, 1500, 80, 900, 100,
                1200, 90, 1000, 250, 1100, 95, 990, 400};
            for (int i = 0; i < 4; i++) {
                int[] n = Arrays.copyOfRange(was, 4 * age, 4 * age + 4);
                n[i] += i > 1 && n[i] > 900 ? -10 : 10;
                tellsApart("age " + age + ", number " + i, x -> x.age(of, n[0], n[1], n[2], n[3]));
            }
        }
        tellsApart("young", x -> x.young(5001));
        tellsApart("change", x -> x.change(301));
        tellsApart("spread", x -> x.error(21, 1));
        tellsApart("delay", x -> x.error(20, 2));
        tellsApart("mark", x -> x.mark(300001));
        tellsApart("rule", x -> x.rule(0, 0, 0));
        tellsApart("run of the same", x -> x.run(1, 4, 3));
        tellsApart("run of another rule", x -> x.run(0, 4, 3));
        tellsApart("run of fewer years", x -> x.run(1, 3, 3));
        tellsApart("run of fewer seeds", x -> x.run(1, 4, 2));
        Refused.sameStock("a stock without a change", Stocks.ran(), Stocks.ran());
    }

    private static void tellsApart(String what, Consumer<OutlookOdds> call) {
        OutlookOdds x = Stocks.ran();
        call.accept(x);
        String difference = Refused.firstDifference(Stocks.portrait(x), Stocks.portrait(Stocks.ran()));
        Check.same("the portrait tells of " + what, difference.equals("no difference") ? 0 : 1, 1);
    }

    /** "of several exceptions the one named first is thrown" */
    private static void theExceptionNamedFirst() {
        for (int age : new int[] {-1, 6}) {
            Refused.noSuchPlace("age " + age + " and number", Stocks::ran, x -> x.age(age, -1, 1, 1, 1));
            Refused.noSuchPlace("age " + age + " and weight", Stocks::ran, x -> x.age(age, 1, 10001, 1, 1));
            Refused.noSuchPlace("age " + age + " and ripe", Stocks::ran, x -> x.age(age, 1, 1, 1001, 1));
            Refused.noSuchPlace("age " + age + " and die", Stocks::ran, x -> x.age(age, 1, 1, 1, -1));
        }
        Refused.wrongNumber("low and no room", Stocks::full, x -> x.rule(-1, 1, 1));
        Refused.wrongNumber("high and no room", Stocks::full, x -> x.rule(0, 2000000001, 1));
        Refused.wrongNumber("low above high and no room", Stocks::full, x -> x.rule(2, 1, 1));
        Refused.wrongNumber("rate and no room", Stocks::full, x -> x.rule(1, 1, 901));
        for (int rule : new int[] {-1, 3}) {
            Refused.noSuchPlace("rule " + rule + " and years", Stocks::ran, x -> x.run(rule, 0, 1));
            Refused.noSuchPlace("rule " + rule + " and seeds", Stocks::ran, x -> x.run(rule, 1, 17));
            Refused.noSuchPlace("rule " + rule + ", years and seeds", Stocks::ran, x -> x.run(rule, 21, 0));
        }
        Refused.wrongState("no RUN, seed and span", Stocks::set, x -> x.recovers(-1, 0));
        Refused.wrongState("no RUN and span", Stocks::set, x -> x.recovers(0, 21));
        Refused.noSuchPlace("seed and span", Stocks::ran, x -> x.recovers(-1, 0));
        Refused.noSuchPlace("seed 3 of 3 and span", Stocks::ran, x -> x.recovers(3, 21));
        Refused.wrongNumber("span alone", Stocks::ran, x -> x.recovers(2, 21));
    }
}
