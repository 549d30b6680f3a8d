import java.math.BigInteger;

/** The edges of promises 8, 9 and 10: clocks, strikes and their times, a sentence at a time. */
public final class EdgeClockTest {
    private static final Due DUE = new Due();
    private static final Edges EDGES = new Edges(DUE);
    private static final int[] SECONDS = {0, 1, 2, 19999, 20000, 39998, 39999, 40000};
    /** What time() answers, or how it throws, below 0. */
    private static final Edges.Call TIME = (o, a) -> {
        int thrown = Due.thrownByTime(o, a[0], a[1], a[2]);
        return thrown != 0 ? -thrown : o.time(a[0], a[1], a[2]);
    };

    public static void main(String[] args) {
        clocksOfNoFlightOrLoft();
        secondsOfClocks();
        readAboveSet();
        inPlaceOfWhatWasTold();
        shownNotAboveSet();
        strikesOfNothingThere();
        secondsAndDaysOfStrikes();
        atMostFortyStrikes();
        byTheClockOfAnyLoft();
        noClockToldYet();
        belowSetOrAboveShown();
        noSuchStrike();
        voidOrNoSuchWhat();
        inLeastTerms();
        timesOfLargeNumbers();
        asIfItHadAlwaysBeenKnown();
        DUE.end();
    }

    /** One loft at 0, 1; one bird; one flight from 0, 0 over all seconds. */
    private static BirdOffice smallOffice() {
        BirdOffice office = new BirdOffice();
        office.loft(0, 1);
        office.bird(0, 0, 0);
        office.flight(0, 0, 0, 40000, 0);
        return office;
    }

    /** "false: no such FLIGHT, LOFT" */
    private static void clocksOfNoFlightOrLoft() {
        EDGES.range("clock flight", Edges.CLOCK, Edges.FALSE, 0, 0, 1, 0, 0, 5, 6, 7);
        EDGES.range("clock loft", Edges.CLOCK, Edges.FALSE, 1, 0, 1, 0, 0, 5, 6, 7);
    }

    /** "false: no such ... seconds": "Seconds are 0 .. 40000" */
    private static void secondsOfClocks() {
        EDGES.range("clock set", Edges.CLOCK, Edges.FALSE, 2, 0, 39999, 0, 0, 5, 40000, 7);
        EDGES.range("clock read", Edges.CLOCK, Edges.FALSE, 3, 1, 40000, 0, 0, 0, 6, 7);
        EDGES.range("clock shown", Edges.CLOCK, Edges.FALSE, 4, 0, 40000, 0, 0, 5, 6, 7);
        EDGES.refused("clock", Edges.CLOCK, Edges.FALSE, 0, 0, 40000, 40001, 40000);
        EDGES.refused("clock", Edges.CLOCK, Edges.FALSE, 0, 0, -1, 0, 0);
    }

    /** "false: ... READ not above SET" */
    private static void readAboveSet() {
        EDGES.range("clock read", Edges.CLOCK, Edges.FALSE, 3, 701, 40000, 0, 0, 700, 0, 900);
        EDGES.range("clock set", Edges.CLOCK, Edges.FALSE, 2, 0, 699, 0, 0, 0, 700, 900);
        EDGES.refused("clock", Edges.CLOCK, Edges.FALSE, 0, 0, 40000, 40000, 40000);
        EDGES.refused("clock", Edges.CLOCK, Edges.FALSE, 0, 0, 0, 0, 0);
        EDGES.refused("clock", Edges.CLOCK, Edges.FALSE, 0, 0, 40000, 0, 40000);
        EDGES.taken("clock", Edges.CLOCK, Edges.FALSE, 0, 0, 39999, 40000, 0);
    }

    /** "The CLOCK of a FLIGHT and a LOFT (in place of what was told)" */
    private static void inPlaceOfWhatWasTold() {
        BirdOffice office = smallOffice();
        for (int k = 0; k < 40; k++) {
            office.strike(0, 0, 0, 1000 * k, 0);
        }
        DUE.due("a first clock", office.clock(0, 0, 0, 40000, 40000), true);
        DUE.dueTime(office, 0, 39, 39000, 1);
        DUE.due("a second one", office.clock(0, 0, 1000, 2000, 3000), true);
        DUE.dueThrown(office, 0, 0, 0, Due.NO_ELEMENT);
        DUE.dueTime(office, 0, 1, 1000, 1);
        DUE.dueTime(office, 0, 2, 1500, 1);
        DUE.dueTime(office, 0, 3, 2000, 1);
        DUE.dueThrown(office, 0, 4, 0, Due.NO_ELEMENT);
        DUE.dueThrown(office, 0, 39, 0, Due.NO_ELEMENT);
        DUE.due("a refused one", office.clock(0, 0, 0, 0, 40000), false);
        DUE.dueTime(office, 0, 2, 1500, 1);
        DUE.due("a void one", office.clock(0, 0, 0, 1, 0), true);
        DUE.dueThrown(office, 0, 2, 0, Due.NO_ELEMENT);
    }

    /** "It is VOID if SHOWN is not above SET." */
    private static void shownNotAboveSet() {
        int[][] clocks = {{0, 40000, 0}, {700, 900, 700}, {700, 900, 699}, {700, 900, 0},
            {39999, 40000, 39999}, {39999, 40000, 0}};
        for (int[] c : clocks) {
            BirdOffice office = smallOffice();
            DUE.due("a void clock is told all the same", office.clock(0, 0, c[0], c[1], c[2]), true);
            office.strike(0, 0, 0, c[0], 0);
            office.strike(0, 0, 0, c[2], 0);
            DUE.dueThrown(office, 0, 0, 0, Due.NO_ELEMENT);
            DUE.dueThrown(office, 0, 1, 1, Due.NO_ELEMENT);
            DUE.due("nothing counts by it", office.result(0, 0, 400), 0);
            office.clock(0, 0, c[0], c[1], c[0] + 1);
            DUE.dueTime(office, 0, 0, c[0], 1);
        }
        BirdOffice office = smallOffice();
        office.clock(0, 0, 39999, 40000, 40000);
        office.strike(0, 0, 0, 40000, 0);
        DUE.dueTime(office, 0, 0, 40000, 1);
    }

    /** "NONE if it can't be (no such FLIGHT, LOFT, BIRD ...)" */
    private static void strikesOfNothingThere() {
        EDGES.range("strike flight", Edges.STRIKE, Edges.NONE, 0, 0, 1, 0, 0, 0, 5, 5);
        EDGES.range("strike loft", Edges.STRIKE, Edges.NONE, 1, 0, 1, 0, 0, 0, 5, 5);
        EDGES.range("strike bird", Edges.STRIKE, Edges.NONE, 2, 0, 2, 0, 0, 0, 5, 5);
    }

    /** "no such ... second, day": "Seconds are 0 .. 40000, days 0 .. 400." */
    private static void secondsAndDaysOfStrikes() {
        EDGES.range("strike second", Edges.STRIKE, Edges.NONE, 3, 0, 40000, 0, 0, 0, 5, 5);
        EDGES.range("strike day", Edges.STRIKE, Edges.NONE, 4, 0, 400, 0, 0, 0, 5, 5);
    }

    /** "Strikes (at most 40 a FLIGHT)": "how many the FLIGHT has; NONE ... or it has 40" */
    private static void atMostFortyStrikes() {
        BirdOffice office = smallOffice();
        office.flight(0, 0, 0, 40000, 0);
        office.clock(0, 0, 0, 40000, 40000);
        for (int many = 1; many <= 40; many++) {
            DUE.dueThrown(office, 0, many - 1, 0, Due.OUT_OF_BOUNDS);
            DUE.due("strike " + many, office.strike(0, 0, 0, 1000 + many, 0), many);
        }
        for (int i = 0; i < 3; i++) {
            DUE.due("strike 41", office.strike(0, 0, 0, 1, 0), -1);
        }
        DUE.due("strikes", office.count(4), 40);
        DUE.dueTime(office, 0, 39, 1040, 1);
        DUE.dueThrown(office, 0, 40, 0, Due.OUT_OF_BOUNDS);
        DUE.dueResult(office, 0, 0, 0, 0, 1, 0);
        DUE.due("void ones are strikes too", office.strike(1, 0, 0, 1, 0), 1);
        DUE.due("strikes in all", office.count(4), 41);
    }

    /** "A STRIKE, of a BIRD, by the CLOCK of a LOFT (any)" */
    private static void byTheClockOfAnyLoft() {
        BirdOffice office = new BirdOffice();
        for (int loft = 0; loft < 8; loft++) {
            office.loft(0, 1);
        }
        office.bird(0, 0, 0);
        office.flight(0, 0, 0, 40000, 0);
        for (int loft = 0; loft < 8; loft++) {
            office.clock(0, loft, 0, 100 + loft, 100);
            office.strike(0, loft, 0, 100, 0);
        }
        for (int loft = 0; loft < 8; loft++) {
            DUE.dueTime(office, 0, loft, 100 + loft, 1);
        }
        DUE.dueResult(office, 0, 0, 0, 0, 1, 0);
        office.clock(0, 0, 0, 40000, 100);
        DUE.dueResult(office, 0, 0, 0, 0, 1, 1);
    }

    /** "it is VOID if there is no CLOCK told (yet)" */
    private static void noClockToldYet() {
        for (int second : SECONDS) {
            BirdOffice office = smallOffice();
            office.loft(0, 2);
            office.flight(0, 0, 0, 40000, 0);
            office.strike(0, 0, 0, second, 0);
            office.clock(0, 1, 0, 40000, 40000);
            office.clock(1, 0, 0, 40000, 40000);
            DUE.dueThrown(office, 0, 0, 0, Due.NO_ELEMENT);
            DUE.due("nothing counts", office.result(0, 0, 400), 0);
            office.clock(0, 0, 0, 40000, 40000);
            DUE.dueTime(office, 0, 0, second, 1);
            DUE.due("it counts above released", office.result(0, 0, 400), second > 0 ? 1 : 0);
        }
    }

    /** "or the second is below SET or above SHOWN" */
    private static void belowSetOrAboveShown() {
        BirdOffice office = smallOffice();
        int[] seconds = {0, 699, 700, 900, 901, 40000};
        for (int second : seconds) {
            office.strike(0, 0, 0, second, 0);
        }
        office.clock(0, 0, 700, 1100, 900);
        for (int k = 0; k < seconds.length; k++) {
            DUE.dueThrown(office, 0, k, 0, k == 2 || k == 3 ? 0 : Due.NO_ELEMENT);
        }
        DUE.dueTime(office, 0, 2, 700, 1);
        DUE.dueTime(office, 0, 3, 1100, 1);
        office.clock(0, 0, 0, 40000, 40000);
        for (int k = 0; k < seconds.length; k++) {
            DUE.dueTime(office, 0, k, seconds[k], 1);
        }
    }

    /** "IndexOutOfBoundsException: there is none such." */
    private static void noSuchStrike() {
        EDGES.range("time flight", TIME, -Due.OUT_OF_BOUNDS, 0, 0, 1, 0, 0, 0);
        EDGES.range("time k", TIME, -Due.OUT_OF_BOUNDS, 1, 0, 2, 0, 0, 0);
        EDGES.range("time k of a wrong what", TIME, -Due.OUT_OF_BOUNDS, 1, 0, 2, 0, 0, 2);
        BirdOffice office = smallOffice();
        DUE.dueThrown(office, 0, 0, 0, Due.OUT_OF_BOUNDS);
        DUE.dueThrown(office, 0, 0, -1, Due.OUT_OF_BOUNDS);
        DUE.dueThrown(office, 0, -1, 0, Due.OUT_OF_BOUNDS);
    }

    /** "NoSuchElementException: it is VOID, or no such what." */
    private static void voidOrNoSuchWhat() {
        EDGES.range("time what", TIME, -Due.NO_ELEMENT, 2, 0, 1, 0, 0, 0);
        for (int what : new int[] {-1, 0, 1, 2, Integer.MIN_VALUE, Integer.MAX_VALUE}) {
            EDGES.refused("time of a void strike", TIME, -Due.NO_ELEMENT, 1, 1, what);
        }
    }

    /** "what 0: the upper, 1: the lower number, in least terms" */
    private static void inLeastTerms() {
        BirdOffice office = smallOffice();
        int[][] cases = {{0, 40000, 40000, 0, 0, 1}, {0, 40000, 40000, 40000, 40000, 1},
            {0, 1, 40000, 1, 1, 40000}, {0, 1, 40000, 39999, 39999, 40000}, {0, 1, 40000, 20000, 1, 2},
            {0, 40000, 1, 1, 40000, 1}, {6, 12, 10, 8, 9, 1}, {6, 12, 10, 9, 21, 2},
            {39999, 40000, 40000, 39999, 39999, 1}, {0, 39999, 40000, 1, 39999, 40000},
            {1, 2, 40000, 2, 40000, 39999}, {0, 40000, 39999, 13333, 40000, 3}};
        for (int k = 0; k < cases.length; k++) {
            int[] c = cases[k];
            office.clock(0, 0, c[0], c[1], c[2]);
            office.strike(0, 0, 0, c[3], 0);
            DUE.dueTime(office, 0, k, c[4], c[5]);
        }
    }

    /** "its TIME is SET + (second - SET) (READ - SET) / (SHOWN - SET)", as large as numbers come. */
    private static void timesOfLargeNumbers() {
        for (int set : SECONDS) {
            for (int read : SECONDS) {
                for (int shown : SECONDS) {
                    if (read > set && shown > set) {
                        dueTimes(set, read, shown);
                    }
                }
            }
        }
    }

    private static void dueTimes(int set, int read, int shown) {
        BirdOffice office = smallOffice();
        office.clock(0, 0, set, read, shown);
        int[] seconds = {set, set + 1, (set + shown) / 2, shown - 1, shown};
        for (int k = 0; k < seconds.length; k++) {
            office.strike(0, 0, 0, seconds[k], 0);
            BigInteger lower = BigInteger.valueOf(shown - set);
            BigInteger upper = BigInteger.valueOf(set).multiply(lower).add(
                    BigInteger.valueOf(seconds[k] - set).multiply(BigInteger.valueOf(read - set)));
            BigInteger common = upper.gcd(lower);
            DUE.dueTime(office, 0, k, upper.divide(common).longValueExact(),
                    lower.divide(common).longValueExact());
        }
    }

    /** "A CLOCK counts as if it had always been known." */
    private static void asIfItHadAlwaysBeenKnown() {
        BirdOffice office = smallOffice();
        office.strike(0, 0, 0, 30, 0);
        DUE.dueResult(office, 0, 0, 0);
        office.clock(0, 0, 0, 40000, 40000);
        DUE.dueResult(office, 0, 0, 0, 0, 1, 0);
        DUE.due("points on the first day", office.points(0, 0, 0), 10);
        office.clock(0, 0, 31, 40000, 40000);
        DUE.dueResult(office, 0, 0, 0);
        DUE.due("no points on the first day", office.points(0, 0, 0), 0);
    }
}
