/** The edges of promises 1, 5, 6, 7 and 22 and of the terms' first part, a sentence at a time. */
public final class EdgeRegisterTest {
    private static final Due DUE = new Due();
    private static final Edges EDGES = new Edges(DUE);

    public static void main(String[] args) {
        nothingThereAtAll();
        oneListWithoutAnythingTold();
        placesOfLofts();
        atMostEightLofts();
        aBirdIsOfALoft();
        yearsAndSexes();
        atMostTwentyFourBirds();
        placesOfFlights();
        secondsOfFlights();
        closedAtALaterSecond();
        daysOfFlights();
        atMostSixFlights();
        numberedAsTheyCome();
        aLoftAtThatVeryPlace();
        whatCanBeCounted();
        countsOfAFullOffice();
        fiveHundredAndTwelveCalls();
        DUE.end();
    }

    /** "No LOFTS, BIRDS, FLIGHTS; ...; an empty TAPE." */
    private static void nothingThereAtAll() {
        BirdOffice office = new BirdOffice();
        for (int what = 0; what < 6; what++) {
            DUE.due("new count(" + what + ")", office.count(what), what == 3 ? 1 : 0);
        }
        DUE.due("new bird", office.bird(0, 0, 0), -1);
        DUE.due("new clock", office.clock(0, 0, 0, 1, 1), false);
        DUE.due("new strike", office.strike(0, 0, 0, 0, 0), -1);
        DUE.dueThrown(office, 0, 0, 0, Due.OUT_OF_BOUNDS);
        DUE.due("new protest", office.protest(0, 0, 0), false);
        DUE.due("new clear", office.clear(0, 0), false);
        DUE.due("new withdraw", office.withdraw(0, 0, 0), false);
        DUE.due("new stake", office.stake(0, 0, 0, 0), false);
        DUE.due("new result", office.result(0, 0, 0), -1);
        DUE.due("new row", office.row(0, 0), -1);
        DUE.due("new faster", office.faster(0, 0, 0, 0), -1);
        DUE.due("new prize", office.prize(0, 0, 0, 0), -1);
        DUE.due("new pool", office.pool(0, 0, 0, 0), -1);
        DUE.due("new close", office.close(0, 0, 0), false);
        DUE.due("new points", office.points(0, 0, 0), -1);
        DUE.due("new lists(1)", office.lists(1), -2);
        DUE.due("the tape was empty", office.feed(0, 0, 0, 0, 0), 20);
    }

    /** "one LIST without anything told": no if, no most, no until, no pay. */
    private static void oneListWithoutAnythingTold() {
        BirdOffice office = new BirdOffice();
        office.loft(0, 1);
        office.flight(0, 0, 0, 40000, 0);
        office.clock(0, 0, 0, 40000, 40000);
        for (int bird = 0; bird < 24; bird++) {
            office.bird(0, bird % 2 * 99, bird % 2);
            office.strike(0, 0, bird, 40000, 0);
            office.stake(0, 0, bird, 10000);
        }
        DUE.due("all are in it", office.result(0, 0, 0), 24);
        DUE.due("it pays nothing", office.pool(0, 0, 0, 1), 0);
        DUE.due("the club keeps all", office.pool(0, 0, 0, 2), 240000);
        DUE.due("there is no second list", office.result(0, 1, 0), -1);
    }

    /** "LOFTS ... at x, y (0 .. 2000)" */
    private static void placesOfLofts() {
        EDGES.range("loft x", Edges.LOFT, Edges.NONE, 0, 0, 2000, 7, 7);
        EDGES.range("loft y", Edges.LOFT, Edges.NONE, 1, 0, 2000, 7, 7);
    }

    /** "LOFTS, at most 8" */
    private static void atMostEightLofts() {
        BirdOffice office = new BirdOffice();
        for (int i = 0; i < 8; i++) {
            DUE.due("loft " + i, office.loft(0, 2000), i);
        }
        DUE.due("a ninth loft", office.loft(5, 5), -1);
        DUE.due("lofts", office.count(0), 8);
        DUE.due("a bird of the ninth", office.bird(8, 0, 0), -1);
        DUE.due("a bird of the eighth", office.bird(7, 0, 0), 0);
        office.bird(0, 0, 0);
        office.flight(0, 0, 0, 40000, 0);
        office.clock(0, 0, 0, 40000, 40000);
        office.strike(0, 0, 0, 100, 0);
        office.strike(0, 0, 1, 100, 0);
        DUE.due("the ninth took no other's place", office.faster(0, 0, 1, 0), 0);
    }

    /** "BIRDS ... each of a LOFT" */
    private static void aBirdIsOfALoft() {
        EDGES.range("bird loft", Edges.BIRD, Edges.NONE, 0, 0, 1, 1, 5, 1);
    }

    /** "with a YEAR (0 .. 99) and a SEX (0, 1)" */
    private static void yearsAndSexes() {
        EDGES.range("bird year", Edges.BIRD, Edges.NONE, 1, 0, 99, 1, 5, 1);
        EDGES.range("bird sex", Edges.BIRD, Edges.NONE, 2, 0, 1, 1, 5, 1);
    }

    /** "BIRDS, at most 24" */
    private static void atMostTwentyFourBirds() {
        BirdOffice office = new BirdOffice();
        office.loft(0, 1);
        office.flight(0, 0, 0, 40000, 0);
        for (int bird = 0; bird < 24; bird++) {
            DUE.due("protest ahead of bird " + bird, office.protest(0, bird, 0), false);
            DUE.due("bird " + bird, office.bird(0, 0, 0), bird);
        }
        DUE.due("bird 24", office.bird(0, 0, 0), -1);
        DUE.due("birds", office.count(1), 24);
        DUE.due("protest against the last", office.protest(0, 23, 0), true);
        DUE.due("protest against one too many", office.protest(0, 24, 0), false);
    }

    /** "from x, y (0 .. 2000)" */
    private static void placesOfFlights() {
        EDGES.range("flight x", Edges.FLIGHT, Edges.NONE, 0, 0, 2000, 7, 7, 0, 1, 0);
        EDGES.range("flight y", Edges.FLIGHT, Edges.NONE, 1, 0, 2000, 7, 7, 0, 1, 0);
    }

    /** "Seconds are 0 .. 40000": of a flight, RELEASED has a later one above it, CLOSED one below. */
    private static void secondsOfFlights() {
        EDGES.range("flight released", Edges.FLIGHT, Edges.NONE, 2, 0, 39999, 7, 7, 0, 40000, 0);
        EDGES.range("flight closed", Edges.FLIGHT, Edges.NONE, 3, 1, 40000, 7, 7, 0, 1, 0);
    }

    /** "RELEASED at a second, CLOSED at a later one" */
    private static void closedAtALaterSecond() {
        EDGES.range("flight closed", Edges.FLIGHT, Edges.NONE, 3, 701, 40000, 7, 7, 700, 0, 0);
        EDGES.range("flight released", Edges.FLIGHT, Edges.NONE, 2, 0, 699, 7, 7, 0, 700, 0);
        EDGES.refused("flight", Edges.FLIGHT, Edges.NONE, 7, 7, 40000, 40000, 0);
        EDGES.refused("flight", Edges.FLIGHT, Edges.NONE, 7, 7, 0, 0, 0);
        EDGES.refused("flight", Edges.FLIGHT, Edges.NONE, 7, 7, Integer.MAX_VALUE, Integer.MIN_VALUE, 0);
        EDGES.refused("flight", Edges.FLIGHT, Edges.NONE, 7, 7, 40000, 40001, 0);
        EDGES.refused("flight", Edges.FLIGHT, Edges.NONE, 7, 7, -1, 0, 0);
    }

    /** "days 0 .. 400" */
    private static void daysOfFlights() {
        EDGES.range("flight day", Edges.FLIGHT, Edges.NONE, 4, 0, 400, 7, 7, 0, 1, 0);
    }

    /** "FLIGHTS, at most 6" */
    private static void atMostSixFlights() {
        BirdOffice office = new BirdOffice();
        office.loft(0, 1);
        office.bird(0, 0, 0);
        for (int flight = 0; flight < 6; flight++) {
            DUE.due("result ahead of flight " + flight, office.result(flight, 0, 0), -1);
            DUE.due("flight " + flight, office.flight(0, 0, 0, 1, 0), flight);
        }
        DUE.due("a seventh flight", office.flight(0, 0, 0, 1, 0), -1);
        DUE.due("flights", office.count(2), 6);
        DUE.due("a strike of the last", office.strike(5, 0, 0, 0, 0), 1);
        DUE.due("a strike of one too many", office.strike(6, 0, 0, 0, 0), -1);
    }

    /** "All are numbered from 0 on as they come": what is refused takes no number. */
    private static void numberedAsTheyCome() {
        BirdOffice office = new BirdOffice();
        for (int i = 0; i < 4; i++) {
            DUE.due("no loft", office.loft(2001, i), -1);
            DUE.due("loft", office.loft(2000, i), i);
            DUE.due("no bird", office.bird(i, 100, 0), -1);
            DUE.due("bird", office.bird(i, 99, 0), i);
            DUE.due("no flight", office.flight(0, 0, 1, 1, i), -1);
            DUE.due("flight", office.flight(0, 0, 0, 1, i), i);
            DUE.due("no strike", office.strike(0, i, i, 40001, i), -1);
            DUE.due("strike", office.strike(0, i, i, 40000, i), i + 1);
        }
    }

    /** "a LOFT at that very place can't send birds (its BIRDS never count)" */
    private static void aLoftAtThatVeryPlace() {
        int[][] places = {{0, 0}, {1, 0}, {0, 1}, {2000, 2000}, {1999, 2000}, {2000, 1999}, {0, 2000}};
        for (int from = 0; from < places.length; from++) {
            BirdOffice office = new BirdOffice();
            office.flight(places[from][0], places[from][1], 0, 40000, 0);
            for (int bird = 0; bird < places.length; bird++) {
                office.loft(places[bird][0], places[bird][1]);
                office.bird(bird, 0, 0);
                office.clock(0, bird, 0, 40000, 40000);
                office.strike(0, bird, bird, 100, 0);
            }
            DUE.due("all but one are in it", office.result(0, 0, 0), places.length - 1);
            for (int bird = 0; bird < places.length; bird++) {
                int home = bird == from ? (bird + 1) % places.length : bird;
                DUE.due("points of bird " + bird + " from " + from, office.points(bird, 0, 0) > 0,
                        bird != from);
                DUE.due("bird " + bird + " has a velocity from " + from,
                        office.faster(0, bird, home, 0), bird == from ? -1 : 0);
                DUE.due("the other has a velocity from " + from,
                        office.faster(0, home, bird, 0), bird == from ? -1 : 0);
            }
        }
    }

    /** "NONE for another what." */
    private static void whatCanBeCounted() {
        EDGES.range("count", Edges.COUNT, Edges.NONE, 0, 0, 5, 0);
    }

    /** "0 LOFTS, 1 BIRDS, 2 FLIGHTS, 3 LISTS, 4 STRIKES in all, 5 CLOSED prizes", each in full. */
    private static void countsOfAFullOffice() {
        BirdOffice office = new BirdOffice();
        for (int loft = 0; loft < 9; loft++) {
            office.loft(0, 0);
        }
        for (int bird = 0; bird < 25; bird++) {
            office.bird(0, 0, 0);
        }
        Due.tellLists(office, "list{}".repeat(6));
        for (int flight = 0; flight < 7; flight++) {
            office.flight(0, 0, 0, 1, 0);
            for (int k = 0; k < 41; k++) {
                office.strike(flight, 0, 0, 0, 0);
            }
            for (int list = 0; list < 7; list++) {
                office.close(flight, list, 0);
            }
        }
        int[] counts = {8, 24, 6, 6, 240, 36};
        for (int what = 0; what < counts.length; what++) {
            DUE.due("count(" + what + ") in full", office.count(what), counts[what]);
        }
    }

    /** "An object is used for at most 512 calls": the last of them answers as the first. */
    private static void fiveHundredAndTwelveCalls() {
        BirdOffice office = new BirdOffice();
        for (int call = 0; call < 500; call++) {
            DUE.due("call " + call, office.feed(0, 0, 0, 0, 0), call < 40 ? 20 * (call + 1) : -1);
        }
        office.loft(3, 4);
        office.bird(0, 0, 0);
        office.flight(0, 0, 0, 40000, 0);
        office.clock(0, 0, 0, 40000, 40000);
        for (int call = 504; call < 511; call++) {
            DUE.due("call " + call, office.strike(0, 0, 0, 40000, 0), call - 503);
        }
        DUE.due("call 511", office.result(0, 0, 0), 1);
    }
}
