/** The edges of promises 14, 18, 19, 20 and 21 and of the terms' prizes and points, a sentence at a time. */
public final class EdgePrizeTest {
    private static final Due DUE = new Due();
    private static final Edges EDGES = new Edges(DUE);

    public static void main(String[] args) {
        stakeTests();
        prizesOfNothingThere();
        poolsOfNothingThere();
        poolTests();
        closesOfNothingThere();
        closedTests();
        pointTests();
        DUE.end();
    }

    private static void stakeTests() {
        stakesOfNothingThere();
        coins();
        inPlaceOfWhatItWas();
        noStakeOnceClosed();
    }

    private static void poolTests() {
        aPoolOfNothing();
        aFullPool();
        withdrawnByThen();
        aProtestLeavesTheStake();
        numbersOfPayAndBeyond();
        cutForEachPlace();
        equalOnesShare();
        theLastOfAll();
        thoseWithAStake();
    }

    private static void closedTests() {
        closedAsOfThatDay();
        whateverComesLater();
        closedOnce();
    }

    private static void pointTests() {
        pointsOfNothingThere();
        elevenLessItsPlace();
        flightsOfThatDayOrAhead();
        asKnownOnTheSecondDay();
        pointsOfAllFlights();
    }

    /** Birds of one loft home in the order of their numbers, at the seconds told, by the text's lists. */
    private static BirdOffice home(String text, int... seconds) {
        BirdOffice office = new BirdOffice();
        office.loft(0, 1);
        office.flight(0, 0, 0, 40000, 0);
        office.clock(0, 0, 0, 40000, 40000);
        for (int bird = 0; bird < seconds.length; bird++) {
            office.bird(0, 0, 0);
            office.strike(0, 0, bird, seconds[bird], 0);
        }
        DUE.due("lists of [" + text + "]", Due.tellLists(office, text) > 0, true);
        return office;
    }

    private static void stakeAll(BirdOffice office, int... coins) {
        for (int bird = 0; bird < coins.length; bird++) {
            DUE.due("stake of " + coins[bird], office.stake(0, 0, bird, coins[bird]), true);
        }
    }

    private static void duePrizes(BirdOffice office, int day, long... wants) {
        long sum = 0;
        for (int bird = 0; bird < wants.length; bird++) {
            DUE.due("prize(0, 0, " + bird + ", " + day + ")", office.prize(0, 0, bird, day), wants[bird]);
            sum += wants[bird];
        }
        DUE.due("all prizes of day " + day, office.pool(0, 0, day, 1), sum);
    }

    private static void duePool(BirdOffice office, int day, long... wants) {
        for (int what = 0; what < wants.length; what++) {
            DUE.due("pool(0, 0, " + day + ", " + what + ")", office.pool(0, 0, day, what), wants[what]);
        }
    }

    /** "false if it can't be": no such FLIGHT, LIST, BIRD. */
    private static void stakesOfNothingThere() {
        EDGES.range("stake flight", Edges.STAKE, Edges.FALSE, 0, 0, 1, 0, 0, 0, 5);
        EDGES.range("stake list", Edges.STAKE, Edges.FALSE, 1, 0, 1, 1, 0, 0, 5);
        EDGES.range("stake bird", Edges.STAKE, Edges.FALSE, 2, 0, 2, 0, 0, 0, 5);
    }

    /** "0 .. 10000 coins" */
    private static void coins() {
        EDGES.range("stake coins", Edges.STAKE, Edges.FALSE, 3, 0, 10000, 0, 0, 0, 5);
        BirdOffice office = home("list{pay 100;}", 7);
        for (int coins : new int[] {0, 1, 9999, 10000}) {
            stakeAll(office, coins);
            duePool(office, 0, coins, coins, 0, 0);
        }
    }

    /** "A BIRD's stake (in place of what it was)": a refused one leaves it. */
    private static void inPlaceOfWhatItWas() {
        BirdOffice office = home("list{}list{}", 7, 8);
        stakeAll(office, 10000, 10000);
        DUE.due("a stake too large", office.stake(0, 0, 0, 10001), false);
        DUE.due("a stake below 0", office.stake(0, 0, 0, -1), false);
        duePool(office, 0, 20000, 0, 20000, 0);
        DUE.due("a lesser one", office.stake(0, 0, 0, 1), true);
        duePool(office, 0, 10001, 0, 10001, 0);
        DUE.due("another list's", office.stake(0, 1, 0, 5), true);
        duePool(office, 0, 10001, 0, 10001, 0);
        DUE.due("one of 0", office.stake(0, 0, 1, 0), true);
        duePool(office, 0, 1, 0, 1, 0);
    }

    /** "or the prizes there are CLOSED" */
    private static void noStakeOnceClosed() {
        for (int coins : new int[] {0, 1, 50, 10000}) {
            EDGES.refused("stake of the closed list", Edges.STAKE, Edges.FALSE, 0, 1, 0, coins);
        }
        EDGES.taken("stake of the open list", Edges.STAKE, Edges.FALSE, 0, 0, 0, 1);
        EDGES.taken("stake of the other flight", Edges.STAKE, Edges.FALSE, 1, 1, 0, 1);
    }

    /** "NONE if it can't be asked." */
    private static void prizesOfNothingThere() {
        EDGES.range("prize flight", Edges.PRIZE, Edges.NONE, 0, 0, 1, 0, 0, 0, 10);
        EDGES.range("prize list", Edges.PRIZE, Edges.NONE, 1, 0, 1, 0, 0, 0, 10);
        EDGES.range("prize bird", Edges.PRIZE, Edges.NONE, 2, 0, 2, 0, 0, 0, 10);
        EDGES.range("prize day", Edges.PRIZE, Edges.NONE, 3, 0, 400, 0, 0, 0, 10);
        EDGES.range("closed prize bird", Edges.PRIZE, Edges.NONE, 2, 0, 2, 0, 1, 0, 10);
    }

    /** "NONE if it can't be asked.", for a what outside 0 .. 3 too. */
    private static void poolsOfNothingThere() {
        EDGES.range("pool flight", Edges.POOL, Edges.NONE, 0, 0, 1, 0, 0, 10, 0);
        EDGES.range("pool list", Edges.POOL, Edges.NONE, 1, 0, 1, 0, 0, 10, 0);
        EDGES.range("pool day", Edges.POOL, Edges.NONE, 2, 0, 400, 0, 0, 10, 0);
        EDGES.range("pool what", Edges.POOL, Edges.NONE, 3, 0, 3, 0, 0, 10, 0);
        EDGES.range("closed pool what", Edges.POOL, Edges.NONE, 3, 0, 3, 0, 1, 10, 0);
    }

    /** "POOL: the stakes": without any, or of 0, or without a bird. */
    private static void aPoolOfNothing() {
        BirdOffice office = home("list{pay 100;}", 7);
        duePool(office, 0, 0, 0, 0, 0);
        duePrizes(office, 400, 0);
        stakeAll(office, 0);
        duePool(office, 400, 0, 0, 0, 0);
        BirdOffice empty = new BirdOffice();
        empty.flight(0, 0, 0, 1, 0);
        duePool(empty, 0, 0, 0, 0, 0);
        DUE.due("no bird, no prize", empty.prize(0, 0, 0, 0), -1);
        DUE.due("closed all the same", empty.close(0, 0, 0), true);
        duePool(empty, 0, 0, 0, 0, 0);
    }

    /** 24 stakes of 10000: as large as a POOL comes, and "POOL times ... pay" with it. */
    private static void aFullPool() {
        int[] seconds = new int[24];
        int[] coins = new int[24];
        for (int bird = 0; bird < 24; bird++) {
            seconds[bird] = 100 + bird;
            coins[bird] = 10000;
        }
        BirdOffice office = home("list{pay 100;}", seconds);
        stakeAll(office, coins);
        duePool(office, 0, 240000, 240000, 0, 0);
        duePrizes(office, 0, 240000, 0);
        for (int bird = 0; bird < 24; bird++) {
            office.withdraw(0, bird, 1);
        }
        duePool(office, 0, 240000, 240000, 0, 0);
        duePool(office, 1, 0, 0, 0, 240000);
    }

    /** "the stakes ... of BIRDS that aren't withdrawn by then; others go BACK" */
    private static void withdrawnByThen() {
        for (int day : new int[] {0, 1, 400}) {
            BirdOffice office = home("list{pay 50 10;}", 7, 8, 9);
            stakeAll(office, 100, 20, 3);
            office.withdraw(0, 0, day);
            if (day > 0) {
                duePool(office, day - 1, 123, 73, 50, 0);
                duePrizes(office, day - 1, 61, 12, 0);
            }
            duePool(office, day, 23, 13, 10, 100);
            duePrizes(office, day, 0, 11, 2);
            duePool(office, 400, 23, 13, 10, 100);
        }
        BirdOffice office = home("list{}", 7);
        stakeAll(office, 0);
        office.withdraw(0, 0, 0);
        duePool(office, 0, 0, 0, 0, 0);
        DUE.due("a stake of one withdrawn", office.stake(0, 0, 0, 10000), true);
        duePool(office, 0, 0, 0, 0, 10000);
    }

    /** "POOL: ... BIRDS that aren't withdrawn by then": a protest alone takes no stake out. */
    private static void aProtestLeavesTheStake() {
        BirdOffice office = home("list{pay 50 10;}", 7, 8);
        stakeAll(office, 100, 20);
        office.protest(0, 0, 5);
        duePool(office, 4, 120, 72, 48, 0);
        duePool(office, 5, 120, 60, 60, 0);
        duePrizes(office, 5, 0, 60);
        office.clear(0, 0);
        duePrizes(office, 5, 60, 12);
    }

    /** "place i of them (from 1 on) has ... the i-th number of pay ... (0 beyond)" */
    private static void numbersOfPayAndBeyond() {
        int[] seconds = {1, 2, 3, 4, 5, 6, 7, 8, 9, 10};
        int[] coins = {10, 10, 10, 10, 10, 10, 10, 10, 10, 10};
        BirdOffice office = home("list{pay 9 8 7 6 5 4 3 2;}", seconds);
        stakeAll(office, coins);
        duePrizes(office, 0, 9, 8, 7, 6, 5, 4, 3, 2, 0, 0);
        duePool(office, 0, 100, 44, 56, 0);
        office = home("list{pay 100;}", seconds);
        stakeAll(office, coins);
        duePrizes(office, 0, 100, 0, 0, 0, 0, 0, 0, 0, 0, 0);
        office = home("list{pay 0 0 1;}", seconds);
        stakeAll(office, coins);
        duePrizes(office, 0, 0, 0, 1, 0, 0, 0, 0, 0, 0, 0);
        office = home("list{}list{pay 100;}", seconds);
        stakeAll(office, coins);
        duePrizes(office, 0, 0, 0, 0, 0, 0, 0, 0, 0, 0, 0);
        // What stands behind the eighth number, and what stood behind the first of a former pay.
        office = home("list{pay 9 8 7 6 5 4 3 2;}list{pay 50 50;}", seconds);
        stakeAll(office, coins);
        duePrizes(office, 0, 9, 8, 7, 6, 5, 4, 3, 2, 0, 0);
        office = home("list{pay 9 8 7 6 5 4 3 2;}", seconds);
        Due.tellLists(office, "list{pay 9;}");
        stakeAll(office, coins);
        duePrizes(office, 0, 9, 0, 0, 0, 0, 0, 0, 0, 0, 0);
        // Fewer birds than numbers: the club keeps the rest.
        office = home("list{pay 50 50;}", 7);
        stakeAll(office, 100);
        duePool(office, 0, 100, 50, 50, 0);
    }

    /** "POOL times the i-th number of pay / 100, cut" */
    private static void cutForEachPlace() {
        int[] coins = {1, 49, 50, 51, 99, 100, 101, 199, 200, 10000};
        for (int c : coins) {
            BirdOffice office = home("list{pay 1 2 97;}", 7, 8, 9);
            stakeAll(office, c, 0, 0);
            duePrizes(office, 0, c / 100, 0, 0);
            duePool(office, 0, c, c / 100, c - c / 100, 0);
            office.stake(0, 0, 1, 1);
            office.stake(0, 0, 2, 1);
            long pool = c + 2;
            duePrizes(office, 0, pool / 100, pool * 2 / 100, pool * 97 / 100);
            duePool(office, 0, pool);
        }
    }

    /** "those of equal VELOCITY have what their places have together, by how many they are, cut" */
    private static void equalOnesShare() {
        BirdOffice office = home("list{pay 50 20 10;}", 7, 7, 7, 7);
        stakeAll(office, 97, 1, 1, 1);
        duePrizes(office, 0, 20, 20, 20, 20);
        office = home("list{pay 50 20 10;}", 7, 7, 7, 8);
        stakeAll(office, 97, 1, 1, 1);
        duePrizes(office, 0, 26, 26, 26, 0);
        duePool(office, 0, 100, 78, 22, 0);
        // The last place that pays and the first beyond it.
        office = home("list{pay 50 21;}", 7, 8, 8);
        stakeAll(office, 98, 1, 1);
        duePrizes(office, 0, 50, 10, 10);
        // All beyond.
        office = home("list{pay 50;}", 7, 8, 8);
        stakeAll(office, 98, 1, 1);
        duePrizes(office, 0, 50, 0, 0);
        // Cut for each place ahead of being put together: 2 times 0.99.
        office = home("list{pay 33 33 33;}", 7, 7, 7);
        stakeAll(office, 1, 1, 1);
        duePrizes(office, 0, 0, 0, 0);
        office.stake(0, 0, 0, 3);
        duePrizes(office, 0, 1, 1, 1);
        int[] seconds = new int[24];
        int[] coins = new int[24];
        java.util.Arrays.fill(seconds, 40000);
        java.util.Arrays.fill(coins, 10000);
        office = home("list{pay 13 13 13 13 12 12 12 12;}", seconds);
        stakeAll(office, coins);
        DUE.due("all 24 are equal", office.prize(0, 0, 23, 0), 10000);
        duePool(office, 0, 240000, 240000, 0, 0);
    }

    /** "the stakes for that FLIGHT and LIST": of the last flight, the last list, the last bird. */
    private static void theLastOfAll() {
        BirdOffice office = new BirdOffice();
        office.loft(0, 1);
        for (int bird = 0; bird < 24; bird++) {
            office.bird(0, 0, 0);
        }
        for (int flight = 0; flight < 6; flight++) {
            office.flight(0, 0, 0, 40000, 0);
            office.clock(flight, 0, 0, 40000, 40000);
            office.strike(flight, 0, 23, 5, 0);
        }
        Due.tellLists(office, "list{pay 1;}list{pay 2;}list{pay 3;}list{pay 4;}list{pay 5;}list{pay 6;}");
        DUE.due("stake", office.stake(5, 5, 23, 10000), true);
        for (int flight = 0; flight < 6; flight++) {
            for (int list = 0; list < 6; list++) {
                boolean isLast = flight == 5 && list == 5;
                DUE.due("pool of " + flight + ", " + list, office.pool(flight, list, 0, 0), isLast ? 10000 : 0);
                DUE.due("prize of " + flight + ", " + list, office.prize(flight, list, 23, 0), isLast ? 600 : 0);
            }
        }
        DUE.due("close", office.close(5, 5, 0), true);
        DUE.due("stake", office.stake(5, 5, 23, 0), false);
        DUE.due("stake of another list", office.stake(5, 4, 23, 100), true);
        DUE.due("stake of another flight", office.stake(4, 5, 23, 100), true);
        DUE.due("prize of another list", office.prize(5, 4, 23, 400), 5);
        DUE.due("prize of another flight", office.prize(4, 5, 23, 400), 6);
        DUE.due("the closed prize", office.prize(5, 5, 23, 400), 600);
        DUE.due("prize of another bird", office.prize(5, 5, 22, 400), 0);
    }

    /** "of the RESULT those with a stake": one of 1 is a stake, one of 0 is none. */
    private static void thoseWithAStake() {
        BirdOffice office = home("list{pay 50 20;}", 7, 8, 9);
        stakeAll(office, 0, 1, 99);
        duePrizes(office, 0, 0, 50, 20);
        office.stake(0, 0, 0, 1);
        duePrizes(office, 0, 50, 20, 0);
        // Two that are equal behind one without a stake, then one of them without.
        office = home("list{pay 50 21 9;}", 7, 8, 8, 9);
        stakeAll(office, 0, 1, 1, 98);
        duePrizes(office, 0, 0, 35, 35, 9);
        office.stake(0, 0, 1, 0);
        office.stake(0, 0, 3, 99);
        duePrizes(office, 0, 0, 0, 50, 21);
        office = home("list{pay 50 20;if ring>1;}", 7, 8, 9);
        stakeAll(office, 50, 49, 1);
        duePrizes(office, 0, 0, 0, 50);
        duePool(office, 0, 100, 50, 50, 0);
        office = home("list{pay 50 20;most 1;}", 7, 8, 9);
        stakeAll(office, 0, 50, 50);
        duePrizes(office, 0, 0, 0, 0);
        duePool(office, 0, 100, 0, 100, 0);
    }

    /** "false: none such, or they are." */
    private static void closesOfNothingThere() {
        EDGES.range("close flight", Edges.CLOSE, Edges.FALSE, 0, 0, 1, 0, 0, 10);
        EDGES.range("close list", Edges.CLOSE, Edges.FALSE, 1, 0, 1, 1, 0, 10);
        EDGES.range("close day", Edges.CLOSE, Edges.FALSE, 2, 0, 400, 0, 0, 10);
        for (int day : new int[] {0, 10, 11, 12, 400}) {
            EDGES.refused("close of the closed list", Edges.CLOSE, Edges.FALSE, 0, 1, day);
        }
    }

    /** "as of the day told then" */
    private static void closedAsOfThatDay() {
        for (int day : new int[] {0, 4, 5, 6, 400}) {
            BirdOffice office = home("list{pay 50 10;}", 7, 8);
            stakeAll(office, 100, 20);
            office.withdraw(0, 0, 5);
            DUE.due("close on " + day, office.close(0, 0, day), true);
            for (int asked : new int[] {0, 4, 5, 6, 400}) {
                if (day < 5) {
                    duePool(office, asked, 120, 72, 48, 0);
                    duePrizes(office, asked, 60, 12);
                } else {
                    duePool(office, asked, 20, 10, 10, 100);
                    duePrizes(office, asked, 0, 10);
                }
            }
        }
    }

    /** "whatever comes later" */
    private static void whateverComesLater() {
        BirdOffice office = home("list{pay 50 10;}list{pay 100;}", 7, 8);
        stakeAll(office, 100, 20);
        DUE.due("close", office.close(0, 0, 400), true);
        office.strike(0, 0, 1, 1, 0);
        office.protest(0, 1, 0);
        duePrizes(office, 400, 60, 12);
        office.clear(0, 1);
        office.withdraw(0, 0, 0);
        duePool(office, 400, 120, 72, 48, 0);
        office.clock(0, 0, 0, 1, 0);
        office.bird(0, 0, 0);
        office.stake(0, 1, 0, 7);
        office.close(0, 1, 0);
        office.pool(0, 1, 0, 0);
        duePrizes(office, 0, 60, 12, 0);
        duePool(office, 0, 120, 72, 48, 0);
        DUE.due("the result is not closed", office.result(0, 0, 400), 0);
        DUE.due("refused, with stakes", Due.tellLists(office, "list{}"), -2);
        duePrizes(office, 0, 60, 12, 0);
    }

    /** "The prizes of a FLIGHT and a LIST are CLOSED": these alone, and once. */
    private static void closedOnce() {
        BirdOffice office = new BirdOffice();
        for (int flight = 0; flight < 6; flight++) {
            office.flight(0, 0, 0, 1, 0);
        }
        Due.tellLists(office, "list{}".repeat(6));
        for (int i = 0; i < 36; i++) {
            DUE.due("closed so far", office.count(5), i);
            DUE.due("close", office.close(i % 6, i / 6, 400), true);
            DUE.due("close again", office.close(i % 6, i / 6, 400), false);
        }
        DUE.due("all are closed", office.count(5), 36);
        DUE.due("a seventh list", office.close(0, 6, 0), false);
        DUE.due("a seventh flight", office.close(6, 0, 0), false);
    }

    /** "NONE: no such BIRD, days." */
    private static void pointsOfNothingThere() {
        EDGES.range("points bird", Edges.POINTS, Edges.NONE, 0, 0, 2, 0, 10, 10);
        EDGES.range("points flown", Edges.POINTS, Edges.NONE, 1, 0, 400, 0, 10, 10);
        EDGES.range("points known", Edges.POINTS, Edges.NONE, 2, 0, 400, 0, 10, 10);
        BirdOffice office = new BirdOffice();
        office.loft(0, 0);
        office.bird(0, 0, 0);
        DUE.due("without any flight", office.points(0, 400, 400), 0);
    }

    /** "11 less its PLACE (0 if that is above 10, or it is not in it)" */
    private static void elevenLessItsPlace() {
        int[] seconds = new int[24];
        for (int bird = 0; bird < 24; bird++) {
            seconds[bird] = 100 + bird;
        }
        BirdOffice office = home("list{if not ring=23;}", seconds);
        for (int bird = 0; bird < 24; bird++) {
            DUE.due("points of place " + (bird + 1), office.points(bird, 0, 0), bird < 10 ? 10 - bird : 0);
        }
        for (int bird = 8; bird < 24; bird++) {
            seconds[bird] = bird < 10 ? 108 : bird < 20 ? 110 : 111;
        }
        office = home("list{}", seconds);
        int[] wants = {10, 9, 8, 7, 6, 5, 4, 3, 2, 2, 0};
        for (int bird = 0; bird < wants.length; bird++) {
            DUE.due("points of bird " + bird, office.points(bird, 0, 0), wants[bird]);
        }
        office.protest(0, 0, 0);
        DUE.due("place 10 of many", office.points(19, 0, 0), 1);
        DUE.due("place 20", office.points(20, 0, 0), 0);
        DUE.due("not in it", office.points(0, 0, 0), 0);
    }

    /** "over all FLIGHTS of the first day or ahead" */
    private static void flightsOfThatDayOrAhead() {
        for (int day : new int[] {0, 1, 200, 400}) {
            BirdOffice office = new BirdOffice();
            office.loft(0, 1);
            office.bird(0, 0, 0);
            office.flight(0, 0, 0, 40000, day);
            office.clock(0, 0, 0, 40000, 40000);
            office.strike(0, 0, 0, 1, 0);
            for (int flown : new int[] {0, day - 1, day, day + 1, 400}) {
                boolean isDay = flown >= 0 && flown <= 400;
                DUE.due("a flight on " + day + ", flown by " + flown, office.points(0, flown, 0),
                        !isDay ? -1 : flown >= day ? 10 : 0);
            }
        }
    }

    /** "by LIST 0 as KNOWN on the second" */
    private static void asKnownOnTheSecondDay() {
        BirdOffice office = new BirdOffice();
        office.loft(0, 1);
        office.bird(0, 0, 0);
        office.flight(0, 0, 0, 40000, 400);
        office.clock(0, 0, 0, 40000, 40000);
        office.strike(0, 0, 0, 1, 50);
        office.protest(0, 0, 60);
        int[] days = {0, 49, 50, 59, 60, 400};
        int[] wants = {0, 0, 10, 10, 0, 0};
        for (int i = 0; i < days.length; i++) {
            DUE.due("known on " + days[i], office.points(0, 400, days[i]), wants[i]);
        }
        office.clear(0, 0);
        Due.tellLists(office, "list{until 0;}list{}");
        DUE.due("by list 0's until", office.points(0, 400, 400), 0);
        Due.tellLists(office, "list{if ring>0;}list{}");
        DUE.due("by list 0's if", office.points(0, 400, 400), 0);
        Due.tellLists(office, "list{}list{until 0;if ring>0;}");
        DUE.due("by no other list", office.points(0, 400, 400), 10);
    }

    /** "over all FLIGHTS": none, one, all six. */
    private static void pointsOfAllFlights() {
        BirdOffice office = new BirdOffice();
        office.loft(0, 1);
        office.bird(0, 0, 0);
        office.bird(0, 0, 0);
        for (int flight = 0; flight < 6; flight++) {
            DUE.due("the first's points", office.points(0, 400, 400), 10 * flight);
            DUE.due("the second's points", office.points(1, 400, 400), 9 * flight);
            office.flight(0, 0, 0, 40000, 80 * (5 - flight));
            office.clock(flight, 0, 0, 40000, 40000);
            office.strike(flight, 0, 0, 1, 0);
            office.strike(flight, 0, 1, 2, 0);
        }
        DUE.due("all of the first's", office.points(0, 400, 0), 60);
        DUE.due("all of the second's", office.points(1, 400, 0), 54);
        DUE.due("all but one", office.points(0, 399, 0), 50);
        DUE.due("one", office.points(0, 79, 0), 10);
        DUE.due("two", office.points(0, 80, 0), 20);
    }
}
