import java.util.ArrayList;
import java.util.Arrays;
import java.util.List;

/**
 * What the edge tests share: an office in the midst of its season, and calls held against it: the
 * last arguments that are taken, the first that are refused, and that a refused call leaves all as
 * it is. An office is never asked more than the 512 calls that the document promises.
 */
final class Edges {
    static final long NONE = -1;
    static final long FALSE = 0;

    /** Steps by which a number cut to fewer bits comes back to where it was, and the ends of int. */
    private static final int[] FAR = {256, 1 << 16, 1 << 24, 1 << 31, -256, -(1 << 16), -(1 << 24)};

    /** One call of the face; a boolean answers 1 or 0. */
    interface Call {
        long on(BirdOffice office, int[] a);
    }

    static final Call LOFT = (o, a) -> o.loft(a[0], a[1]);
    static final Call BIRD = (o, a) -> o.bird(a[0], a[1], a[2]);
    static final Call FLIGHT = (o, a) -> o.flight(a[0], a[1], a[2], a[3], a[4]);
    static final Call CLOCK = (o, a) -> o.clock(a[0], a[1], a[2], a[3], a[4]) ? 1 : 0;
    static final Call STRIKE = (o, a) -> o.strike(a[0], a[1], a[2], a[3], a[4]);
    static final Call PROTEST = (o, a) -> o.protest(a[0], a[1], a[2]) ? 1 : 0;
    static final Call CLEAR = (o, a) -> o.clear(a[0], a[1]) ? 1 : 0;
    static final Call WITHDRAW = (o, a) -> o.withdraw(a[0], a[1], a[2]) ? 1 : 0;
    static final Call STAKE = (o, a) -> o.stake(a[0], a[1], a[2], a[3]) ? 1 : 0;
    static final Call RESULT = (o, a) -> o.result(a[0], a[1], a[2]);
    static final Call ROW = (o, a) -> o.row(a[0], a[1]);
    static final Call FASTER = (o, a) -> o.faster(a[0], a[1], a[2], a[3]);
    static final Call PRIZE = (o, a) -> o.prize(a[0], a[1], a[2], a[3]);
    static final Call POOL = (o, a) -> o.pool(a[0], a[1], a[2], a[3]);
    static final Call CLOSE = (o, a) -> o.close(a[0], a[1], a[2]) ? 1 : 0;
    static final Call POINTS = (o, a) -> o.points(a[0], a[1], a[2]);
    static final Call COUNT = (o, a) -> o.count(a[0]);
    static final Call FAULT = (o, a) -> o.fault(a[0]);
    static final Call LISTS = (o, a) -> o.lists(a[0]);
    static final Call FEED = (o, a) -> o.feed(a[0], a[1], a[2], a[3], a[4]);

    private final Due due;

    Edges(Due due) {
        this.due = due;
    }

    /** Two lofts, three birds, two flights, two lists, a fault, stakes, a closed list, a tape of 20. */
    static BirdOffice office() {
        BirdOffice office = new BirdOffice();
        office.loft(30, 40);
        office.loft(0, 100);
        office.bird(0, 20, 0);
        office.bird(0, 21, 1);
        office.bird(1, 20, 1);
        office.flight(0, 0, 1000, 5000, 10);
        office.flight(30, 40, 0, 40000, 20);
        office.clock(0, 0, 0, 4000, 4000);
        office.clock(0, 1, 0, 4000, 4100);
        office.clock(1, 1, 0, 40000, 40000);
        office.strike(0, 0, 0, 2000, 10);
        office.strike(0, 0, 1, 3000, 10);
        office.strike(0, 1, 2, 3075, 10);
        office.strike(1, 1, 2, 500, 20);
        office.strike(1, 0, 1, 7, 20);
        Due.tellLists(office, "list{pay 60 30;}list{most 1;until 1500;pay 50;}");
        Due.tellLists(office, "list{most 0;}");
        office.protest(0, 1, 12);
        office.withdraw(0, 2, 14);
        for (int bird = 0; bird < 3; bird++) {
            office.stake(0, 0, bird, 100 + bird);
        }
        office.stake(0, 1, 0, 50);
        office.stake(1, 0, 2, 9);
        office.close(0, 1, 11);
        Due.feedText(office, "list{}");
        office.result(0, 0, 10);
        return office;
    }

    /** All that can be seen of such an office, the latest rows first and what alters it last. */
    private static List<String> seen(BirdOffice office) {
        List<String> all = new ArrayList<>();
        seeRows(all, "latest", office, 4);
        for (int what = 0; what < 6; what++) {
            all.add("count(" + what + ") " + office.count(what));
        }
        all.add("fault " + office.fault(0) + " at " + office.fault(1));
        for (int flight = 0; flight < 3; flight++) {
            seeTimes(all, office, flight);
            for (int list = 0; list < 2; list++) {
                seeResults(all, office, flight, list);
                seePrizes(all, office, flight, list);
            }
            all.add("faster " + office.faster(flight, 0, 1, 400) + " " + office.faster(flight, 1, 2, 400));
        }
        for (int bird = 0; bird < 3; bird++) {
            all.add("points of " + bird + ": " + office.points(bird, 10, 11) + " "
                    + office.points(bird, 400, 400));
        }
        all.add("clears " + office.clear(0, 0) + " " + office.clear(0, 1) + " " + office.clear(1, 1));
        all.add("tape " + office.feed(0, 0, 0, 0, 0));
        return all;
    }

    private static void seeRows(List<String> all, String name, BirdOffice office, int many) {
        for (int k = 0; k < many; k++) {
            all.add(name + " row " + k + ": " + office.row(k, 0) + " " + office.row(k, 1) + " "
                    + office.row(k, 2));
        }
    }

    private static void seeTimes(List<String> all, BirdOffice office, int flight) {
        for (int k = 0; k < 4; k++) {
            int thrown = Due.thrownByTime(office, flight, k, 0);
            all.add("time of " + flight + ", " + k + ": " + (thrown != 0 ? "throws " + thrown
                    : office.time(flight, k, 0) + " / " + office.time(flight, k, 1)));
        }
    }

    private static void seeResults(List<String> all, BirdOffice office, int flight, int list) {
        for (int day : new int[] {9, 11, 12, 400}) {
            String name = "result(" + flight + ", " + list + ", " + day + ")";
            int many = office.result(flight, list, day);
            all.add(name + " " + many);
            seeRows(all, name, office, many);
        }
    }

    private static void seePrizes(List<String> all, BirdOffice office, int flight, int list) {
        for (int day : new int[] {13, 14}) {
            String name = "as of " + flight + ", " + list + ", " + day + ": ";
            all.add(name + "pool " + office.pool(flight, list, day, 0) + " back "
                    + office.pool(flight, list, day, 3));
            all.add(name + "prizes " + office.prize(flight, list, 0, day) + " "
                    + office.prize(flight, list, 1, day) + " " + office.prize(flight, list, 2, day));
        }
    }

    /** Argument 'at' runs from first to last; what lies beyond, near and far, is refused. */
    void range(String name, Call call, long refusal, int at, int first, int last, int... args) {
        taken(name, call, refusal, with(args, at, first));
        taken(name, call, refusal, with(args, at, last));
        refused(name, call, refusal, with(args, at, first - 1));
        refused(name, call, refusal, with(args, at, last + 1));
        refused(name, call, refusal, with(args, at, Integer.MIN_VALUE));
        refused(name, call, refusal, with(args, at, Integer.MAX_VALUE));
        for (int far : FAR) {
            if (first + far > last || first + far < first) {
                refused(name, call, refusal, with(args, at, first + far));
            }
        }
    }

    void taken(String name, Call call, long refusal, int... args) {
        due.due(told(name, args) + " is refused", call.on(office(), args) == refusal, false);
    }

    void refused(String name, Call call, long refusal, int... args) {
        BirdOffice office = office();
        due.due(told(name, args), call.on(office, args), refusal);
        List<String> after = seen(office);
        List<String> before = seen(office());
        for (int i = 0; i < before.size(); i++) {
            String left = i < after.size() ? after.get(i) : "nothing";
            due.due(told(name, args) + " alters [" + before.get(i) + "] to [" + left + "]",
                    left.equals(before.get(i)), true);
        }
    }

    private static int[] with(int[] args, int at, int value) {
        int[] other = args.clone();
        other[at] = value;
        return other;
    }

    private static String told(String name, int[] args) {
        return name + Arrays.toString(args);
    }
}
