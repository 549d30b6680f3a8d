import java.math.BigInteger;

/** The edges of promises 11, 12, 13, 15, 16 and 17 and of the terms' RESULT, a sentence at a time. */
public final class EdgeResultTest {
    private static final Due DUE = new Due();
    private static final Edges EDGES = new Edges(DUE);

    public static void main(String[] args) {
        resultsOfNothingThere();
        emptyAndFullResults();
        knownByThen();
        aboveReleased();
        notAboveClosed();
        notAboveReleasedAndUntil();
        theEarliestOne();
        ofEqualTimesTheFirstTold();
        greaterVelocityFirst();
        velocitiesOfLargeNumbers();
        timeLessReleased();
        ofEqualOnesTheLesserBird();
        asManyAsMostTells();
        places();
        protestTests();
        withdrawalsOfNothingThere();
        withdrawnByThen();
        rowTests();
        fasterTests();
        DUE.end();
    }

    private static void protestTests() {
        protestsOfNothingThere();
        protestsKnownByThen();
        clearsOfNothingThere();
        allProtestsAreTakenBack();
    }

    private static void rowTests() {
        rowsOutside();
        rowsBeforeAnyResult();
        rowsOfTheLatestThatWasNotNone();
        rowsAsTheyWereThen();
    }

    private static void fasterTests() {
        fasterOfNothingThere();
        fasterWithoutAStrikeThatCounts();
        fasterByTheUntilOfListNothing();
        fasterEitherWay();
    }

    /** Two birds of a loft at 0, 1; a flight from 0, 0 between the seconds; a clock of all seconds. */
    private static BirdOffice smallOffice(int released, int closed) {
        BirdOffice office = new BirdOffice();
        office.loft(0, 1);
        office.bird(0, 0, 0);
        office.bird(0, 0, 0);
        office.flight(0, 0, released, closed, 0);
        office.clock(0, 0, 0, 40000, 40000);
        return office;
    }

    /** "NONE: no such FLIGHT, LIST, day." */
    private static void resultsOfNothingThere() {
        EDGES.range("result flight", Edges.RESULT, Edges.NONE, 0, 0, 1, 0, 0, 10);
        EDGES.range("result list", Edges.RESULT, Edges.NONE, 1, 0, 1, 0, 0, 10);
        EDGES.range("result day", Edges.RESULT, Edges.NONE, 2, 0, 400, 0, 0, 10);
    }

    /** "how many are in it": none at all, one, all 24. */
    private static void emptyAndFullResults() {
        BirdOffice office = new BirdOffice();
        office.flight(0, 0, 0, 40000, 0);
        DUE.dueResult(office, 0, 0, 0);
        office.loft(3, 4);
        office.clock(0, 0, 0, 40000, 40000);
        for (int bird = 0; bird < 24; bird++) {
            office.bird(0, 0, 0);
            DUE.due("without its strike", office.result(0, 0, 400), bird);
            office.strike(0, 0, bird, 40000 - bird, 0);
            DUE.due("with its strike", office.result(0, 0, 0), bird + 1);
            DUE.due("the first is the latest one", office.row(0, 0), bird);
            DUE.due("the last is bird 0", office.row(bird, 0), 0);
            DUE.due("its place", office.row(bird, 1), bird + 1);
            DUE.due("nothing behind it", office.row(bird + 1, 0), -1);
        }
    }

    /** "a STRIKE counts if it is KNOWN by then": not a day ahead. */
    private static void knownByThen() {
        for (int day : new int[] {0, 1, 200, 399, 400}) {
            BirdOffice office = smallOffice(0, 40000);
            office.strike(0, 0, 1, 7, day);
            for (int on : new int[] {0, day - 1, day, day + 1, 400}) {
                boolean isDay = on >= 0 && on <= 400;
                DUE.due("known on " + day + ", as known on " + on, office.result(0, 0, on),
                        !isDay ? -1 : on >= day ? 1 : 0);
            }
        }
    }

    private static void dueCounts(String what, int released, int closed, int[] clock, int second, boolean want) {
        BirdOffice office = smallOffice(released, closed);
        office.clock(0, 0, clock[0], clock[1], clock[2]);
        office.strike(0, 0, 0, second, 0);
        DUE.due(what + " at " + second, office.result(0, 0, 0), want ? 1 : 0);
    }

    /** "its TIME is above RELEASED": by any fraction. */
    private static void aboveReleased() {
        int[] even = {0, 40000, 40000};
        int[] slow = {0, 40000, 39999};
        int[] fast = {0, 39999, 40000};
        dueCounts("released 1000", 1000, 40000, even, 999, false);
        dueCounts("released 1000", 1000, 40000, even, 1000, false);
        dueCounts("released 1000", 1000, 40000, even, 1001, true);
        dueCounts("released 1000, 1000.03", 1000, 40000, slow, 1000, true);
        dueCounts("released 1000, 999.98", 1000, 40000, fast, 1000, false);
        dueCounts("released 0", 0, 40000, even, 0, false);
        dueCounts("released 0", 0, 40000, even, 1, true);
        dueCounts("released 0, 1 / 40000", 0, 1, new int[] {0, 1, 40000}, 1, true);
        dueCounts("released 39999", 39999, 40000, even, 39999, false);
        dueCounts("released 39999", 39999, 40000, even, 40000, true);
        dueCounts("released 39999, 39999.9", 39999, 40000, slow, 39998, false);
        dueCounts("released 1, 1 + 1 / 39999", 1, 2, new int[] {1, 2, 40000}, 2, true);
        dueCounts("released 1, 1", 1, 2, new int[] {1, 2, 40000}, 1, false);
        dueCounts("a clock that showed one second", 0, 40000, new int[] {0, 1, 1}, 1, true);
        dueCounts("a clock that showed one second", 0, 40000, new int[] {39999, 40000, 40000}, 39999, true);
        dueCounts("a clock that showed one second for all", 0, 40000, new int[] {0, 40000, 1}, 1, true);
    }

    /** "not above CLOSED": by no fraction. */
    private static void notAboveClosed() {
        int[] even = {0, 40000, 40000};
        dueCounts("closed 5000", 0, 5000, even, 4999, true);
        dueCounts("closed 5000", 0, 5000, even, 5000, true);
        dueCounts("closed 5000", 0, 5000, even, 5001, false);
        dueCounts("closed 5000, 5000.1", 0, 5000, new int[] {0, 40000, 39999}, 5000, false);
        dueCounts("closed 5000, 4999.9", 0, 5000, new int[] {0, 39999, 40000}, 5000, true);
        dueCounts("closed 40000", 0, 40000, even, 40000, true);
        dueCounts("closed 1", 0, 1, even, 1, true);
        dueCounts("closed 1", 0, 1, even, 2, false);
        dueCounts("closed 1, 1 + 1 / 39999", 0, 1, new int[] {1, 2, 40000}, 2, false);
        dueCounts("closed 1, 1", 0, 1, new int[] {1, 2, 40000}, 1, true);
        dueCounts("closed 39999, 39999 + 1 / 2", 0, 39999, new int[] {39998, 40000, 40000}, 39999, true);
        dueCounts("closed 39999, 40000", 0, 39999, new int[] {39998, 40000, 40000}, 40000, false);
    }

    /** "nor above RELEASED + until" */
    private static void notAboveReleasedAndUntil() {
        int[] even = {0, 40000, 40000};
        int[] slow = {0, 40000, 39999};
        dueUntil(1000, 40000, 0, even, 1001, false);
        dueUntil(1000, 40000, 0, slow, 1000, false);
        dueUntil(1000, 40000, 1, even, 1001, true);
        dueUntil(1000, 40000, 1, slow, 1000, true);
        dueUntil(1000, 40000, 1, slow, 1001, false);
        dueUntil(1000, 40000, 2000, even, 3000, true);
        dueUntil(1000, 40000, 2000, even, 3001, false);
        dueUntil(1000, 40000, 2000, slow, 3000, false);
        dueUntil(1000, 40000, 2000, new int[] {0, 39999, 40000}, 3000, true);
        dueUntil(1000, 2999, 2000, even, 3000, false);
        dueUntil(1000, 3000, 2000, even, 3000, true);
        dueUntil(39999, 40000, 99999, even, 40000, true);
        dueUntil(39999, 40000, 99999, even, 39999, false);
        dueUntil(20000, 39999, 99999, even, 40000, false);
        dueUntil(0, 40000, 39999, even, 40000, false);
        dueUntil(0, 40000, 40000, even, 40000, true);
        // RELEASED + until times 40000 comes round in an int, to 32704 and to below 0.
        dueUntil(10000, 40000, 97375, new int[] {0, 20000, 40000}, 39999, true);
        dueUntil(10000, 40000, 50000, new int[] {0, 20000, 40000}, 39999, true);
    }

    private static void dueUntil(int released, int closed, int until, int[] clock, int second, boolean want) {
        BirdOffice office = smallOffice(released, closed);
        office.clock(0, 0, clock[0], clock[1], clock[2]);
        office.strike(0, 0, 0, second, 0);
        DUE.dueLists(office, "list{}list{until " + until + ";}", 2);
        String what = released + " until " + until + ", closed " + closed + ", at " + second;
        DUE.due(what, office.result(0, 1, 0), want ? 1 : 0);
        DUE.dueLists(office, "list{until " + until + ";}", 1);
        DUE.due(what + ": points", office.points(0, 0, 0), want ? 10 : 0);
        DUE.due(what + ": faster", office.faster(0, 0, 0, 0), want ? 0 : -1);
    }

    /** "of each BIRD the earliest one": the earliest of those that count, told ahead or behind. */
    private static void theEarliestOne() {
        // 20000 + 20000 / 39999 is ahead of 20000 + 20000 / 39998 by a hundred thousandth.
        for (int first = 0; first < 2; first++) {
            BirdOffice office = smallOffice(0, 40000);
            office.loft(0, 2);
            office.clock(0, first, 0, 40000, 39999);
            office.clock(0, 1 - first, 0, 39999, 39998);
            office.strike(0, 0, 0, 20000, 0);
            office.strike(0, 1, 0, 20000, 0);
            DUE.dueResult(office, 0, 0, 0, 0, 1, first);
        }
        BirdOffice office = smallOffice(1000, 5000);
        int[] seconds = {1000, 5001, 5000, 999, 1001, 1002, 40000, 0};
        for (int second : seconds) {
            office.strike(0, 0, 0, second, 0);
        }
        DUE.dueResult(office, 0, 0, 0, 0, 1, 4);
        BirdOffice full = smallOffice(0, 40000);
        for (int k = 0; k < 40; k++) {
            full.strike(0, 0, 0, 40000 - k, k);
        }
        DUE.dueResult(full, 0, 0, 38, 0, 1, 38);
        DUE.dueResult(full, 0, 0, 39, 0, 1, 39);
    }

    /** "the earliest one": of equal TIMES the words tell none apart; the one told first counts. */
    private static void ofEqualTimesTheFirstTold() {
        BirdOffice office = smallOffice(0, 40000);
        office.loft(0, 2);
        office.clock(0, 1, 0, 40000, 20000);
        office.strike(0, 1, 0, 20000, 5);
        office.strike(0, 0, 0, 40000, 0);
        office.strike(0, 1, 0, 20000, 0);
        DUE.dueResult(office, 0, 0, 4, 0, 1, 1);
        DUE.dueResult(office, 0, 0, 5, 0, 1, 0);
    }

    /** "In order: the greater VELOCITY first", however little greater. */
    private static void greaterVelocityFirst() {
        BirdOffice office = new BirdOffice();
        office.loft(2000, 2000);
        office.loft(2000, 1999);
        office.loft(1999, 2000);
        for (int bird = 0; bird < 3; bird++) {
            office.bird(bird, 0, 0);
        }
        office.flight(0, 0, 0, 40000, 0);
        office.clock(0, 0, 0, 40000, 40000);
        office.strike(0, 0, 0, 40000, 0);
        office.strike(0, 0, 1, 40000, 0);
        office.strike(0, 0, 2, 39999, 0);
        DUE.dueResult(office, 0, 0, 0, 0, 1, 0, 2, 2, 2, 1, 3, 1);
        office.strike(0, 0, 1, 39991, 0);
        DUE.dueResult(office, 0, 0, 0, 0, 1, 0, 1, 2, 3, 2, 3, 2);
        office.strike(0, 0, 1, 39990, 0);
        DUE.dueResult(office, 0, 0, 0, 1, 1, 4, 0, 2, 0, 2, 3, 2);
    }

    /** "the greater VELOCITY first", from the least to the greatest: no long holds their products. */
    private static void velocitiesOfLargeNumbers() {
        int[][] lofts = {{2000, 2000}, {1999, 2000}, {0, 1}, {2000, 0}, {1, 1}, {1414, 1414}, {3, 4}, {6, 8}};
        int[][] clocks = {{0, 40000, 40000}, {0, 1, 40000}, {0, 40000, 39999}, {0, 39999, 40000},
            {1, 2, 40000}, {1, 40000, 39999}, {0, 39998, 39999}, {0, 2, 40000}};
        int[] seconds = {1, 2, 3, 20000, 39997, 39998, 39999, 40000};
        for (int step = 0; step < seconds.length; step++) {
            BirdOffice office = new BirdOffice();
            office.flight(0, 0, 0, 40000, 0);
            BigInteger[] uppers = new BigInteger[24];
            BigInteger[] lowers = new BigInteger[24];
            for (int i = 0; i < 8; i++) {
                office.loft(lofts[i][0], lofts[i][1]);
                office.clock(0, i, clocks[i][0], clocks[i][1], clocks[i][2]);
            }
            for (int bird = 0; bird < 24; bird++) {
                int[] c = clocks[(bird + bird / 8 * 3) % 8];
                int[] l = lofts[bird % 8];
                int second = Math.min(c[2], seconds[(bird * 5 + bird / 8 + step) % 8]);
                office.bird(bird % 8, 0, 0);
                office.strike(0, (bird + bird / 8 * 3) % 8, bird, second, 0);
                long lower = c[2] - c[0];
                long upper = c[0] * lower + (long) (second - c[0]) * (c[1] - c[0]);
                uppers[bird] = BigInteger.valueOf((l[0] * l[0] + l[1] * l[1]) * lower * lower);
                lowers[bird] = BigInteger.valueOf(upper).pow(2);
            }
            dueOrder(office, uppers, lowers);
        }
    }

    private static void dueOrder(BirdOffice office, BigInteger[] uppers, BigInteger[] lowers) {
        DUE.due("all are home", office.result(0, 0, 0), 24);
        for (int bird = 0; bird < 24; bird++) {
            for (int other = 0; other < 12; other++) {
                int b = (bird * 7 + other) % 24;
                int order = uppers[bird].multiply(lowers[b]).compareTo(uppers[b].multiply(lowers[bird]));
                DUE.due("faster of " + bird + " and " + b, office.faster(0, bird, b, 0),
                        order > 0 ? 1 : order < 0 ? 2 : 0);
            }
        }
        for (int k = 0; k + 1 < 24; k++) {
            int a = office.row(k, 0);
            int b = office.row(k + 1, 0);
            int order = uppers[a].multiply(lowers[b]).compareTo(uppers[b].multiply(lowers[a]));
            DUE.due("row " + k + " is ahead of the next", order > 0 || order == 0 && a < b, true);
            DUE.due("the next's place", office.row(k + 1, 1), order > 0 ? k + 2 : office.row(k, 1));
        }
    }

    /** "by the TIME less RELEASED", from the least part of a second on. */
    private static void timeLessReleased() {
        BirdOffice office = new BirdOffice();
        office.loft(0, 1);
        office.loft(0, 2);
        office.loft(0, 2000);
        for (int bird = 0; bird < 3; bird++) {
            office.bird(bird, 0, 0);
        }
        office.flight(0, 0, 20000, 40000, 0);
        office.clock(0, 0, 0, 40000, 40000);
        office.strike(0, 0, 0, 20001, 0);
        office.strike(0, 0, 1, 20002, 0);
        office.strike(0, 0, 2, 22000, 0);
        DUE.dueResult(office, 0, 0, 0, 0, 1, 0, 1, 1, 1, 2, 1, 2);
        office.strike(0, 0, 2, 21999, 0);
        DUE.dueResult(office, 0, 0, 0, 2, 1, 3, 0, 2, 0, 1, 2, 1);
        // Released at 1 of a clock set at 1: 1 / 39999, 2 / 39999 and 2000 / 39999 of a second are flown.
        office.flight(0, 0, 1, 40000, 0);
        office.clock(1, 0, 1, 2, 40000);
        office.strike(1, 0, 0, 2, 0);
        office.strike(1, 0, 1, 3, 0);
        office.strike(1, 0, 2, 2001, 0);
        DUE.dueTime(office, 1, 0, 40000, 39999);
        DUE.dueResult(office, 1, 0, 0, 0, 1, 0, 1, 1, 1, 2, 1, 2);
        office.strike(1, 0, 2, 2000, 0);
        DUE.dueResult(office, 1, 0, 0, 2, 1, 3, 0, 2, 0, 1, 2, 1);
        office.flight(0, 0, 39999, 40000, 0);
        office.clock(2, 0, 39999, 40000, 40000);
        office.clock(2, 1, 0, 40000, 40000);
        office.strike(2, 0, 0, 40000, 0);
        office.strike(2, 1, 1, 40000, 0);
        DUE.dueResult(office, 2, 0, 0, 1, 1, 1, 0, 2, 0);
    }

    /** "of equal ones the lesser BIRD", whatever the ways and times by which they are equal. */
    private static void ofEqualOnesTheLesserBird() {
        BirdOffice office = new BirdOffice();
        for (int loft = 0; loft < 8; loft++) {
            office.loft(0, 2000 - 250 * loft);
        }
        office.flight(0, 0, 0, 40000, 0);
        office.clock(0, 0, 0, 40000, 40000);
        for (int bird = 0; bird < 24; bird++) {
            office.bird(bird % 8, 0, 0);
        }
        for (int bird = 23; bird >= 0; bird--) {
            office.strike(0, 0, bird, 40000 - 5000 * (bird % 8), 0);
        }
        DUE.due("all are home", office.result(0, 0, 0), 24);
        for (int k = 0; k < 24; k++) {
            DUE.due("bird in row " + k, office.row(k, 0), k);
            DUE.due("place in row " + k, office.row(k, 1), 1);
            DUE.due("strike in row " + k, office.row(k, 2), 23 - k);
        }
    }

    /** "of each LOFT the first ones in this order, as many as most tells" */
    private static void asManyAsMostTells() {
        BirdOffice office = new BirdOffice();
        for (int loft = 0; loft < 8; loft++) {
            office.loft(0, 1 + loft);
        }
        office.flight(0, 0, 0, 40000, 0);
        office.clock(0, 0, 0, 40000, 40000);
        for (int bird = 0; bird < 24; bird++) {
            office.bird(bird < 3 ? bird : 7, 0, 0);
            office.strike(0, 0, bird, 100, 0);
        }
        int[] most = {1, 2, 20, 21, 22, 24, 256, 99999};
        int[] many = {4, 5, 23, 24, 24, 24, 24, 24};
        for (int i = 0; i < most.length; i++) {
            DUE.dueLists(office, "list{most " + most[i] + ";}", 1);
            DUE.due("most " + most[i], office.result(0, 0, 0), many[i]);
            int ofLast = many[i] - 3;
            DUE.due("the last of the last loft", office.row(ofLast - 1, 0), 2 + ofLast);
            DUE.due("behind it", office.row(ofLast, 0), 2);
            DUE.due("the last of all", office.row(many[i] - 1, 0), 0);
            DUE.due("its place", office.row(many[i] - 1, 1), many[i]);
        }
    }

    /** "PLACE: 1 and how many in it have a greater VELOCITY": those that most or if bars are not in it. */
    private static void places() {
        BirdOffice office = new BirdOffice();
        office.loft(0, 1);
        office.loft(1, 0);
        office.flight(0, 0, 0, 40000, 0);
        office.clock(0, 0, 0, 40000, 40000);
        int[] seconds = {10, 10, 20, 20, 20, 30};
        for (int bird = 0; bird < 6; bird++) {
            office.bird(bird == 5 ? 1 : 0, 0, 0);
            office.strike(0, 0, bird, seconds[bird], 0);
        }
        DUE.dueLists(office, "list{}list{most 2;}list{most 3;}list{if ring>0;}list{if ring>1;}list{if ring=5;}", 6);
        DUE.dueResult(office, 0, 0, 0, 0, 1, 0, 1, 1, 1, 2, 3, 2, 3, 3, 3, 4, 3, 4, 5, 6, 5);
        DUE.dueResult(office, 0, 1, 0, 0, 1, 0, 1, 1, 1, 5, 3, 5);
        DUE.dueResult(office, 0, 2, 0, 0, 1, 0, 1, 1, 1, 2, 3, 2, 5, 4, 5);
        DUE.dueResult(office, 0, 3, 0, 1, 1, 1, 2, 2, 2, 3, 2, 3, 4, 2, 4, 5, 5, 5);
        DUE.dueResult(office, 0, 4, 0, 2, 1, 2, 3, 1, 3, 4, 1, 4, 5, 4, 5);
        DUE.dueResult(office, 0, 5, 0, 5, 1, 5);
    }

    /** "false: no such FLIGHT, BIRD, day." */
    private static void protestsOfNothingThere() {
        EDGES.range("protest flight", Edges.PROTEST, Edges.FALSE, 0, 0, 1, 0, 0, 5);
        EDGES.range("protest bird", Edges.PROTEST, Edges.FALSE, 1, 0, 2, 0, 0, 5);
        EDGES.range("protest day", Edges.PROTEST, Edges.FALSE, 2, 0, 400, 0, 0, 5);
    }

    /** Each of 24 birds by itself, the last as the first. */
    private static void dueOneOut(Edges.Call call, String name) {
        BirdOffice office = new BirdOffice();
        office.loft(0, 1);
        office.flight(0, 0, 0, 40000, 0);
        office.clock(0, 0, 0, 40000, 40000);
        for (int bird = 0; bird < 24; bird++) {
            office.bird(0, 0, 0);
            office.strike(0, 0, bird, 100, 0);
        }
        for (int bird = 23; bird >= 0; bird--) {
            DUE.due(name + " of " + bird, call.on(office, new int[] {0, bird, 0}), 1);
            DUE.due("left by " + name, office.result(0, 0, 0), bird);
            DUE.due("the last but it", office.row(bird - 1, 0), bird - 1);
        }
        for (int bird = 0; bird < 24; bird++) {
            boolean protests = call == Edges.PROTEST;
            DUE.due("clear of " + bird, office.clear(0, bird), protests);
            DUE.due("come back", office.result(0, 0, 0), protests ? bird + 1 : 0);
        }
    }

    /** Known from the least day told on: "(the earliest one told counts)". */
    private static void dueKnown(Edges.Call call, String name, int least, int... days) {
        BirdOffice office = smallOffice(0, 40000);
        office.strike(0, 0, 0, 7, 0);
        office.strike(0, 0, 1, 7, 0);
        for (int day : days) {
            DUE.due(name + " on " + day, call.on(office, new int[] {0, 0, day}), 1);
        }
        if (least > 0) {
            DUE.dueResult(office, 0, 0, least - 1, 0, 1, 0, 1, 1, 1);
        }
        DUE.dueResult(office, 0, 0, least, 1, 1, 1);
        DUE.dueResult(office, 0, 0, 400, 1, 1, 1);
        DUE.due(name + " leaves its velocity", office.faster(0, 0, 1, 400), 0);
    }

    /** "no protest of it is KNOWN by then", "(the earliest one told counts)" */
    private static void protestsKnownByThen() {
        dueKnown(Edges.PROTEST, "protest", 0, 0);
        dueKnown(Edges.PROTEST, "protest", 1, 1);
        dueKnown(Edges.PROTEST, "protest", 400, 400);
        dueKnown(Edges.PROTEST, "protest", 0, 400, 0);
        dueKnown(Edges.PROTEST, "protest", 0, 0, 400);
        dueKnown(Edges.PROTEST, "protest", 9, 11, 9, 10);
        dueKnown(Edges.PROTEST, "protest", 9, 9, 9);
        dueOneOut(Edges.PROTEST, "protest");
    }

    /** "false: there are none." */
    private static void clearsOfNothingThere() {
        EDGES.range("clear flight", Edges.CLEAR, Edges.FALSE, 0, 0, 0, 0, 1);
        EDGES.range("clear bird", Edges.CLEAR, Edges.FALSE, 1, 1, 1, 0, 1);
        // A withdrawal is no protest.
        EDGES.refused("clear", Edges.CLEAR, Edges.FALSE, 0, 2);
        EDGES.refused("clear", Edges.CLEAR, Edges.FALSE, 1, 0);
    }

    /** "All protests against a BIRD in a FLIGHT are taken back, as if they had never been" */
    private static void allProtestsAreTakenBack() {
        for (int day : new int[] {0, 200, 400}) {
            BirdOffice office = smallOffice(0, 40000);
            office.flight(0, 0, 0, 40000, 0);
            office.clock(1, 0, 0, 40000, 40000);
            for (int i = 0; i < 4; i++) {
                office.strike(i / 2, 0, i % 2, 7, 0);
                office.protest(i / 2, i % 2, day);
                office.protest(i / 2, i % 2, 400);
            }
            DUE.due("clear", office.clear(0, 0), true);
            DUE.dueResult(office, 0, 0, 400, 0, 1, 0);
            DUE.dueResult(office, 1, 0, 400);
            DUE.due("there are none left", office.clear(0, 0), false);
            DUE.due("a later one counts again", office.protest(0, 0, 300), true);
            DUE.dueResult(office, 0, 0, 400);
            DUE.due("in it a day ahead", office.result(0, 0, 299), day == 400 ? 2 : 1);
            DUE.due("clear of that", office.clear(0, 0), true);
            DUE.due("clear of the other bird", office.clear(0, 1), true);
            DUE.due("clear of the other flight", office.clear(1, 1), true);
            DUE.dueResult(office, 0, 0, 400, 0, 1, 0, 1, 1, 1);
            DUE.dueResult(office, 1, 0, 400, 1, 1, 1);
        }
    }

    /** "false likewise": no such FLIGHT, BIRD, day. */
    private static void withdrawalsOfNothingThere() {
        EDGES.range("withdraw flight", Edges.WITHDRAW, Edges.FALSE, 0, 0, 1, 0, 0, 5);
        EDGES.range("withdraw bird", Edges.WITHDRAW, Edges.FALSE, 1, 0, 2, 0, 0, 5);
        EDGES.range("withdraw day", Edges.WITHDRAW, Edges.FALSE, 2, 0, 400, 0, 0, 5);
    }

    /** "it isn't withdrawn by then", "(the earliest one told counts)" */
    private static void withdrawnByThen() {
        dueKnown(Edges.WITHDRAW, "withdraw", 0, 0);
        dueKnown(Edges.WITHDRAW, "withdraw", 1, 1);
        dueKnown(Edges.WITHDRAW, "withdraw", 400, 400);
        dueKnown(Edges.WITHDRAW, "withdraw", 0, 400, 0);
        dueKnown(Edges.WITHDRAW, "withdraw", 0, 0, 400);
        dueKnown(Edges.WITHDRAW, "withdraw", 9, 11, 9, 10);
        dueOneOut(Edges.WITHDRAW, "withdraw");
        BirdOffice office = smallOffice(0, 40000);
        office.flight(0, 0, 0, 40000, 0);
        office.clock(1, 0, 0, 40000, 40000);
        office.strike(1, 0, 0, 7, 0);
        office.withdraw(0, 0, 0);
        DUE.dueResult(office, 1, 0, 0, 0, 1, 0);
    }

    /** "NONE if there is none such." */
    private static void rowsOutside() {
        EDGES.range("row k", Edges.ROW, Edges.NONE, 0, 0, 2, 0, 0);
        EDGES.range("row what", Edges.ROW, Edges.NONE, 1, 0, 2, 0, 0);
        EDGES.refused("row", Edges.ROW, Edges.NONE, 3, 3);
        EDGES.refused("row", Edges.ROW, Edges.NONE, Integer.MIN_VALUE, Integer.MIN_VALUE);
    }

    /** "NONE if there is none such.": no other call makes rows, nor a result() that is NONE. */
    private static void rowsBeforeAnyResult() {
        BirdOffice office = smallOffice(0, 40000);
        office.strike(0, 0, 0, 7, 0);
        office.points(0, 0, 0);
        office.faster(0, 0, 0, 0);
        office.pool(0, 0, 0, 0);
        office.prize(0, 0, 0, 0);
        office.close(0, 0, 0);
        office.result(0, 1, 0);
        for (int what = -1; what < 4; what++) {
            DUE.due("row before any result", office.row(0, what), -1);
        }
    }

    /** "Of the k-th in the latest result() that was not NONE" */
    private static void rowsOfTheLatestThatWasNotNone() {
        BirdOffice office = smallOffice(0, 40000);
        office.strike(0, 0, 1, 7, 1);
        DUE.dueResult(office, 0, 0, 1, 1, 1, 0);
        int[][] wrong = {{-1, 0, 1}, {1, 0, 1}, {0, -1, 1}, {0, 1, 1}, {0, 0, -1}, {0, 0, 401}};
        for (int[] w : wrong) {
            DUE.due("a result that is NONE", office.result(w[0], w[1], w[2]), -1);
            DUE.due("leaves the rows", office.row(0, 0), 1);
        }
        DUE.due("one that is empty", office.result(0, 0, 0), 0);
        DUE.due("has no rows", office.row(0, 0), -1);
    }

    /** "as it was then" */
    private static void rowsAsTheyWereThen() {
        BirdOffice office = smallOffice(0, 40000);
        office.strike(0, 0, 1, 7, 0);
        office.strike(0, 0, 0, 8, 0);
        DUE.dueResult(office, 0, 0, 0, 1, 1, 0, 0, 2, 1);
        office.strike(0, 0, 0, 1, 0);
        office.protest(0, 1, 0);
        office.withdraw(0, 0, 0);
        office.clock(0, 0, 0, 1, 0);
        office.stake(0, 0, 0, 5);
        office.points(0, 400, 400);
        office.prize(0, 0, 0, 0);
        office.pool(0, 0, 0, 1);
        office.close(0, 0, 0);
        int[] rows = {1, 1, 0, 0, 2, 1, -1, -1, -1};
        for (int i = 0; i < rows.length; i++) {
            DUE.due("row(" + i / 3 + ", " + i % 3 + ") as it was", office.row(i / 3, i % 3), rows[i]);
        }
    }

    /** "NONE: ... no such FLIGHT, BIRDS, day." */
    private static void fasterOfNothingThere() {
        EDGES.range("faster flight", Edges.FASTER, Edges.NONE, 0, 0, 0, 0, 0, 1, 10);
        EDGES.range("faster a", Edges.FASTER, Edges.NONE, 1, 0, 2, 0, 0, 1, 10);
        EDGES.range("faster b", Edges.FASTER, Edges.NONE, 2, 0, 2, 0, 0, 1, 10);
        EDGES.range("faster day", Edges.FASTER, Edges.NONE, 3, 10, 400, 0, 0, 1, 10);
    }

    /** "NONE: one has none": nothing told, not known yet, void, released, closed. */
    private static void fasterWithoutAStrikeThatCounts() {
        BirdOffice office = smallOffice(1000, 5000);
        office.strike(0, 0, 0, 2000, 0);
        DUE.due("itself", office.faster(0, 0, 0, 0), 0);
        int[] seconds = {1000, 5001, 40000, 0};
        for (int second : seconds) {
            DUE.due("none but one", office.faster(0, 0, 1, 0), -1);
            DUE.due("none but one", office.faster(0, 1, 0, 0), -1);
            DUE.due("none at all", office.faster(0, 1, 1, 0), -1);
            office.strike(0, 0, 1, second, 0);
        }
        office.strike(0, 0, 1, 5000, 7);
        DUE.due("not known yet", office.faster(0, 0, 1, 6), -1);
        DUE.due("known", office.faster(0, 0, 1, 7), 1);
        office.clock(0, 0, 0, 40000, 4999);
        DUE.due("void", office.faster(0, 0, 1, 7), -1);
    }

    /** "by LIST 0's until": neither another's, nor its if or most. */
    private static void fasterByTheUntilOfListNothing() {
        BirdOffice office = smallOffice(1000, 5000);
        office.strike(0, 0, 0, 2000, 0);
        office.strike(0, 0, 1, 2001, 0);
        String[] texts = {"list{until 1001;}list{until 0;}", "list{until 1000;}", "list{until 999;}", "list{until 0;}",
            "list{most 1;if ring=9;}list{until 1;}", "list{}"};
        int[] both = {1, -1, -1, -1, 1, 1};
        int[] first = {0, 0, -1, -1, 0, 0};
        for (int i = 0; i < texts.length; i++) {
            Due.tellLists(office, texts[i]);
            DUE.due("both by " + texts[i], office.faster(0, 0, 1, 0), both[i]);
            DUE.due("the first by " + texts[i], office.faster(0, 0, 0, 0), first[i]);
        }
    }

    /** "1 the first one is faster, 0 equal, 2 the second one" */
    private static void fasterEitherWay() {
        BirdOffice office = smallOffice(0, 40000);
        office.loft(0, 2000);
        office.bird(1, 0, 0);
        office.strike(0, 0, 0, 20, 0);
        office.strike(0, 0, 1, 19, 0);
        office.strike(0, 0, 2, 40000, 0);
        DUE.due("1 / 20 and 1 / 19", office.faster(0, 0, 1, 0), 2);
        DUE.due("1 / 19 and 1 / 20", office.faster(0, 1, 0, 0), 1);
        DUE.due("1 / 20 and 2000 / 40000", office.faster(0, 0, 2, 0), 0);
        DUE.due("2000 / 40000 and 1 / 20", office.faster(0, 2, 0, 0), 0);
        DUE.due("2000 / 40000 and 1 / 19", office.faster(0, 2, 1, 0), 2);
        office.strike(0, 0, 2, 39999, 0);
        DUE.due("2000 / 39999 and 1 / 20", office.faster(0, 2, 0, 0), 1);
    }
}
