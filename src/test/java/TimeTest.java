/** Promises 8, 9, 10: clocks, strikes, their times. */
public final class TimeTest {
    private static final Due DUE = new Due();

    public static void main(String[] args) {
        clocks();
        strikes();
        times();
        voidStrikes();
        DUE.end();
    }

    private static BirdOffice smallOffice() {
        BirdOffice office = new BirdOffice();
        office.loft(0, 10);
        office.loft(10, 0);
        office.bird(0, 0, 0);
        office.bird(1, 0, 0);
        office.flight(0, 0, 0, 40000, 0);
        office.flight(5, 5, 0, 40000, 0);
        return office;
    }

    private static void clocks() {
        BirdOffice office = smallOffice();
        int[][] wrong = {{-1, 0, 0, 1, 1}, {2, 0, 0, 1, 1}, {0, -1, 0, 1, 1}, {0, 2, 0, 1, 1},
            {0, 0, -1, 1, 1}, {0, 0, 0, 40001, 1}, {0, 0, 0, 1, -1}, {0, 0, 0, 1, 40001},
            {0, 0, 5, 5, 9}, {0, 0, 5, 4, 9}, {Integer.MIN_VALUE, 0, 0, 1, 1}};
        for (int[] w : wrong) {
            DUE.due("clock of " + java.util.Arrays.toString(w),
                    office.clock(w[0], w[1], w[2], w[3], w[4]), false);
        }
        office.strike(0, 0, 0, 0, 0);
        DUE.dueThrown(office, 0, 0, 0, Due.NO_ELEMENT);
        DUE.due("clock at the edges", office.clock(0, 0, 0, 40000, 40000), true);
        DUE.dueTime(office, 0, 0, 0, 1);
        DUE.due("clock shown ahead of set", office.clock(0, 0, 40, 50, 30), true);
        DUE.dueThrown(office, 0, 0, 0, Due.NO_ELEMENT);
        DUE.due("in place of that", office.clock(0, 0, 0, 7, 2), true);
        office.strike(0, 0, 0, 1, 0);
        DUE.dueTime(office, 0, 1, 7, 2);
        DUE.due("a wrong one", office.clock(0, 0, 9, 9, 9), false);
        DUE.dueTime(office, 0, 1, 7, 2);
        DUE.due("another loft's", office.clock(0, 1, 0, 9, 9), true);
        DUE.due("another flight's", office.clock(1, 0, 0, 9, 9), true);
        DUE.dueTime(office, 0, 1, 7, 2);
    }

    private static void strikes() {
        BirdOffice office = smallOffice();
        int[][] wrong = {{-1, 0, 0, 0, 0}, {2, 0, 0, 0, 0}, {0, -1, 0, 0, 0}, {0, 2, 0, 0, 0},
            {0, 0, -1, 0, 0}, {0, 0, 2, 0, 0}, {0, 0, 0, -1, 0}, {0, 0, 0, 40001, 0},
            {0, 0, 0, 0, -1}, {0, 0, 0, 0, 401}, {Integer.MAX_VALUE, 0, 0, 0, 0}};
        for (int[] w : wrong) {
            DUE.due("strike of " + java.util.Arrays.toString(w),
                    office.strike(w[0], w[1], w[2], w[3], w[4]), -1);
        }
        DUE.due("none came", office.count(4), 0);
        for (int i = 1; i <= 40; i++) {
            DUE.due("strike " + i, office.strike(0, i % 2, i % 2, 40000, 400), i);
        }
        DUE.due("strike 41", office.strike(0, 0, 0, 0, 0), -1);
        DUE.due("the other flight's first", office.strike(1, 0, 0, 0, 0), 1);
        DUE.due("count(4)", office.count(4), 41);
    }

    private static void times() {
        BirdOffice office = smallOffice();
        office.clock(0, 0, 100, 40000, 39999);
        office.strike(0, 0, 0, 100, 0);
        office.strike(0, 0, 0, 101, 0);
        office.strike(0, 0, 0, 39998, 0);
        office.strike(0, 0, 0, 39999, 0);
        DUE.dueTime(office, 0, 0, 100, 1);
        DUE.dueTime(office, 0, 1, 100 * 39899L + 39900, 39899);
        DUE.dueTime(office, 0, 2, 40000 * 39899L - 39900, 39899);
        DUE.dueTime(office, 0, 3, 40000, 1);
        office.clock(0, 1, 6, 36, 15);
        office.strike(0, 1, 0, 7, 0);
        office.strike(0, 1, 0, 9, 0);
        office.strike(0, 1, 1, 15, 0);
        DUE.dueTime(office, 0, 4, 28, 3);
        DUE.dueTime(office, 0, 5, 16, 1);
        DUE.dueTime(office, 0, 6, 36, 1);
    }

    private static void voidStrikes() {
        BirdOffice office = smallOffice();
        DUE.dueThrown(office, 0, 0, 0, Due.OUT_OF_BOUNDS);
        DUE.dueThrown(office, 0, 0, 5, Due.OUT_OF_BOUNDS);
        office.strike(0, 0, 0, 20, 0);
        DUE.dueThrown(office, 0, 0, 0, Due.NO_ELEMENT);
        DUE.dueThrown(office, 0, 0, 2, Due.NO_ELEMENT);
        DUE.dueThrown(office, 0, -1, 0, Due.OUT_OF_BOUNDS);
        DUE.dueThrown(office, 0, 1, 0, Due.OUT_OF_BOUNDS);
        DUE.dueThrown(office, 1, 0, 0, Due.OUT_OF_BOUNDS);
        DUE.dueThrown(office, 2, 0, 0, Due.OUT_OF_BOUNDS);
        DUE.dueThrown(office, -1, 0, 0, Due.OUT_OF_BOUNDS);
        office.clock(0, 0, 20, 60, 40);
        DUE.dueTime(office, 0, 0, 20, 1);
        DUE.dueThrown(office, 0, 0, 2, Due.NO_ELEMENT);
        DUE.dueThrown(office, 0, 0, -1, Due.NO_ELEMENT);
        office.strike(0, 0, 0, 19, 0);
        office.strike(0, 0, 0, 40, 0);
        office.strike(0, 0, 0, 41, 0);
        DUE.dueThrown(office, 0, 1, 0, Due.NO_ELEMENT);
        DUE.dueTime(office, 0, 2, 60, 1);
        DUE.dueThrown(office, 0, 3, 1, Due.NO_ELEMENT);
        office.clock(0, 0, 20, 60, 20);
        DUE.dueThrown(office, 0, 0, 0, Due.NO_ELEMENT);
    }
}
