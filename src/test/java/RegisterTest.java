/** Promises 1, 5, 6, 7, 22: a new object, lofts, birds, flights, counts. */
public final class RegisterTest {
    private static final Due DUE = new Due();

    public static void main(String[] args) {
        aNewObject();
        lofts();
        birds();
        flights();
        counts();
        DUE.end();
    }

    private static void aNewObject() {
        BirdOffice office = new BirdOffice();
        int[] counts = {0, 0, 0, 1, 0, 0};
        for (int what = 0; what < counts.length; what++) {
            DUE.due("new count(" + what + ")", office.count(what), counts[what]);
        }
        DUE.due("new fault(0)", office.fault(0), 0);
        DUE.due("new fault(1)", office.fault(1), -1);
        DUE.due("new lists(1): the tape is empty", office.lists(1), -2);
        DUE.due("new row", office.row(0, 0), -1);
        DUE.due("NONE", BirdOffice.NONE, -1);
        office.loft(0, 3);
        office.bird(0, 0, 0);
        office.flight(0, 0, 0, 40000, 0);
        office.clock(0, 0, 0, 40000, 40000);
        office.strike(0, 0, 0, 40000, 0);
        DUE.dueResult(office, 0, 0, 0, 0, 1, 0);
        office.stake(0, 0, 0, 10);
        DUE.due("the first list pays nothing", office.prize(0, 0, 0, 0), 0);
        DUE.due("the first list's pool", office.pool(0, 0, 0, 0), 10);
    }

    private static void lofts() {
        BirdOffice office = new BirdOffice();
        int[][] wrong = {{-1, 0}, {0, -1}, {2001, 0}, {0, 2001},
            {Integer.MIN_VALUE, 0}, {0, Integer.MAX_VALUE}};
        for (int[] w : wrong) {
            DUE.due("loft(" + w[0] + ", " + w[1] + ")", office.loft(w[0], w[1]), -1);
        }
        DUE.due("loft(0, 0)", office.loft(0, 0), 0);
        DUE.due("loft(2000, 2000)", office.loft(2000, 2000), 1);
        for (int i = 2; i < 8; i++) {
            DUE.due("loft at the same place", office.loft(5, 5), i);
        }
        DUE.due("a ninth loft", office.loft(5, 5), -1);
        DUE.due("count(0)", office.count(0), 8);
    }

    private static void birds() {
        BirdOffice office = new BirdOffice();
        DUE.due("bird without a loft", office.bird(0, 0, 0), -1);
        office.loft(1, 1);
        office.loft(1, 1);
        int[][] wrong = {{-1, 0, 0}, {2, 0, 0}, {0, -1, 0}, {0, 100, 0}, {0, 0, -1}, {0, 0, 2},
            {Integer.MAX_VALUE, 0, 0}, {0, Integer.MIN_VALUE, 0}};
        for (int[] w : wrong) {
            DUE.due("bird(" + w[0] + ", " + w[1] + ", " + w[2] + ")",
                    office.bird(w[0], w[1], w[2]), -1);
        }
        DUE.due("count(1)", office.count(1), 0);
        for (int i = 0; i < 24; i++) {
            DUE.due("bird " + i, office.bird(i % 2, i % 2 * 99, i % 2), i);
        }
        DUE.due("a bird too many", office.bird(0, 0, 0), -1);
        DUE.due("count(1)", office.count(1), 24);
    }

    private static void flights() {
        BirdOffice office = new BirdOffice();
        int[][] wrong = {{-1, 0, 0, 1, 0}, {2001, 0, 0, 1, 0}, {0, -1, 0, 1, 0},
            {0, 2001, 0, 1, 0}, {0, 0, -1, 1, 0}, {0, 0, 0, 40001, 0}, {0, 0, 1, 1, 0},
            {0, 0, 2, 1, 0}, {0, 0, 40000, 40001, 0}, {0, 0, 0, 1, -1}, {0, 0, 0, 1, 401}};
        for (int[] w : wrong) {
            DUE.due("flight of " + java.util.Arrays.toString(w),
                    office.flight(w[0], w[1], w[2], w[3], w[4]), -1);
        }
        DUE.due("flight(0, 0, 0, 1, 0)", office.flight(0, 0, 0, 1, 0), 0);
        DUE.due("flight at the edges", office.flight(2000, 2000, 39999, 40000, 400), 1);
        for (int i = 2; i < 6; i++) {
            DUE.due("flight " + i, office.flight(1, 1, 0, 1, 0), i);
        }
        DUE.due("a seventh flight", office.flight(1, 1, 0, 1, 0), -1);
        DUE.due("count(2)", office.count(2), 6);
    }

    private static void counts() {
        BirdOffice office = new BirdOffice();
        office.loft(1, 1);
        office.loft(2, 2);
        office.bird(0, 0, 0);
        office.bird(0, 0, 0);
        office.bird(0, 0, 0);
        for (int i = 0; i < 4; i++) {
            office.flight(0, 0, 0, 1, 0);
        }
        for (int i = 0; i < 7; i++) {
            office.strike(i % 2, 0, 0, 0, 0);
        }
        Due.tellLists(office, "list{}list{}list{}list{}list{}");
        for (int list = 0; list < 3; list++) {
            office.close(0, list, 0);
            office.close(3, list, 0);
        }
        int[] counts = {2, 3, 4, 5, 7, 6};
        for (int what = 0; what < counts.length; what++) {
            DUE.due("count(" + what + ")", office.count(what), counts[what]);
        }
        DUE.due("count(-1)", office.count(-1), -1);
        DUE.due("count(6)", office.count(6), -1);
    }
}
