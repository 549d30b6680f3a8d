/** Promises 14, 18, 19, 20, 21: stakes, prizes, pools, closed prizes, points. */
public final class PrizeTest {
    private static final Due DUE = new Due();

    public static void main(String[] args) {
        stakes();
        shares();
        tiesAndCuts();
        goesBack();
        closing();
        asking();
        points();
        DUE.end();
    }

    /** Four birds of one loft; bird 3 and bird 2 home together behind bird 0, bird 1 last. */
    private static BirdOffice smallOffice(String text) {
        BirdOffice office = new BirdOffice();
        office.loft(30, 40);
        for (int bird = 0; bird < 4; bird++) {
            office.bird(0, 0, 0);
        }
        office.flight(0, 0, 0, 5000, 7);
        office.clock(0, 0, 0, 5000, 5000);
        office.strike(0, 0, 0, 1000, 7);
        office.strike(0, 0, 3, 2000, 7);
        office.strike(0, 0, 2, 2000, 7);
        office.strike(0, 0, 1, 3000, 8);
        Due.tellLists(office, text);
        return office;
    }

    private static void duePool(BirdOffice office, int day, long pool, long paid, long kept, long back) {
        long[] wants = {pool, paid, kept, back};
        for (int what = 0; what < 4; what++) {
            DUE.due("pool(0, 0, " + day + ", " + what + ")", office.pool(0, 0, day, what), wants[what]);
        }
    }

    private static void duePrizes(BirdOffice office, int day, long... wants) {
        for (int bird = 0; bird < wants.length; bird++) {
            DUE.due("prize(0, 0, " + bird + ", " + day + ")", office.prize(0, 0, bird, day), wants[bird]);
        }
    }

    private static void stakes() {
        BirdOffice office = smallOffice("list{}list{}");
        int[][] wrong = {{-1, 0, 0, 5}, {1, 0, 0, 5}, {0, -1, 0, 5}, {0, 2, 0, 5}, {0, 0, -1, 5},
            {0, 0, 4, 5}, {0, 0, 0, -1}, {0, 0, 0, 10001}};
        for (int[] w : wrong) {
            DUE.due("stake of " + java.util.Arrays.toString(w),
                    office.stake(w[0], w[1], w[2], w[3]), false);
        }
        duePool(office, 0, 0, 0, 0, 0);
        DUE.due("stake 10000", office.stake(0, 0, 0, 10000), true);
        DUE.due("stake 0", office.stake(0, 0, 1, 0), true);
        duePool(office, 0, 10000, 0, 10000, 0);
        DUE.due("stake in place of it", office.stake(0, 0, 0, 3), true);
        duePool(office, 0, 3, 0, 3, 0);
        DUE.due("the other list's pool", office.pool(0, 1, 0, 0), 0);
        DUE.due("stake for the other list", office.stake(0, 1, 0, 9), true);
        DUE.due("the other list's pool", office.pool(0, 1, 0, 0), 9);
        duePool(office, 0, 3, 0, 3, 0);
    }

    private static void shares() {
        BirdOffice office = smallOffice("list{pay 50 20 10 5;}");
        office.stake(0, 0, 1, 100);
        office.stake(0, 0, 2, 33);
        // Bird 0 has no stake: the others move up.
        duePool(office, 7, 133, 66, 67, 0);
        duePrizes(office, 7, 0, 0, 66, 0);
        duePool(office, 8, 133, 92, 41, 0);
        duePrizes(office, 8, 0, 26, 66, 0);
        office.protest(0, 2, 9);
        duePool(office, 9, 133, 66, 67, 0);
        duePrizes(office, 9, 0, 66, 0, 0);
    }

    private static void tiesAndCuts() {
        BirdOffice office = smallOffice("list{pay 50 21 10;}");
        for (int bird = 0; bird < 4; bird++) {
            office.stake(0, 0, bird, bird == 0 ? 16 : 1);
        }
        // 19: 9 for the first; 3 and 1 together are 2 each; the fourth has none.
        duePool(office, 8, 19, 13, 6, 0);
        duePrizes(office, 8, 9, 0, 2, 2);
        office = smallOffice("list{pay 33 33;}");
        office.stake(0, 0, 0, 10);
        office.stake(0, 0, 2, 10);
        office.stake(0, 0, 3, 9);
        // 29: 9 each; those in places 2 and 3 have 9 and 0 together: 4 each.
        duePool(office, 8, 29, 17, 12, 0);
        duePrizes(office, 8, 9, 0, 4, 4);
        office = smallOffice("list{pay 33 33 33;most 1;}");
        for (int bird = 0; bird < 4; bird++) {
            office.stake(0, 0, bird, 10000);
        }
        duePool(office, 8, 40000, 13200, 26800, 0);
        // The first, home alone, has no stake: the two behind it share places 1 and 2.
        office = smallOffice("list{pay 50 20 9;}");
        office.stake(0, 0, 1, 60);
        office.stake(0, 0, 2, 20);
        office.stake(0, 0, 3, 20);
        duePrizes(office, 8, 0, 9, 35, 35);
        duePool(office, 8, 100, 79, 21, 0);
        // One of two that are equal has no stake: the other has its place alone.
        office.stake(0, 0, 2, 0);
        duePrizes(office, 8, 0, 16, 0, 40);
        // Cut for each place first: 1 and 1 of 1.98 each, not 3 of 3.96 together.
        office = smallOffice("list{if ring>1;pay 33 33;}");
        office.stake(0, 0, 2, 3);
        office.stake(0, 0, 3, 3);
        duePrizes(office, 8, 0, 0, 1, 1);
        duePool(office, 8, 6, 2, 4, 0);
    }

    private static void goesBack() {
        BirdOffice office = smallOffice("list{pay 100;}");
        office.stake(0, 0, 0, 40);
        office.stake(0, 0, 1, 7);
        office.withdraw(0, 0, 20);
        duePool(office, 19, 47, 47, 0, 0);
        duePool(office, 20, 7, 7, 0, 40);
        duePrizes(office, 20, 0, 7, 0, 0);
        office.stake(0, 0, 0, 41);
        duePool(office, 20, 7, 7, 0, 41);
    }

    private static void closing() {
        BirdOffice office = smallOffice("list{pay 100;}list{pay 100;}");
        office.stake(0, 0, 0, 40);
        office.stake(0, 0, 1, 7);
        office.withdraw(0, 1, 12);
        int[][] wrong = {{-1, 0, 0}, {1, 0, 0}, {0, -1, 0}, {0, 2, 0}, {0, 0, -1}, {0, 0, 401}};
        for (int[] w : wrong) {
            DUE.due("close of " + java.util.Arrays.toString(w), office.close(w[0], w[1], w[2]), false);
        }
        DUE.due("count(5)", office.count(5), 0);
        DUE.due("close", office.close(0, 0, 12), true);
        DUE.due("close again", office.close(0, 0, 400), false);
        DUE.due("count(5)", office.count(5), 1);
        office.protest(0, 0, 0);
        office.withdraw(0, 0, 0);
        office.clock(0, 0, 0, 5000, 0);
        office.bird(0, 0, 0);
        DUE.due("stake", office.stake(0, 0, 2, 5), false);
        DUE.due("stake of nothing", office.stake(0, 0, 0, 0), false);
        for (int day = 0; day <= 400; day += 100) {
            duePool(office, day, 40, 40, 0, 7);
            duePrizes(office, day, 40, 0, 0, 0, 0);
        }
        DUE.due("no day is none", office.prize(0, 0, 0, 401), -1);
        DUE.due("no day is none", office.pool(0, 0, -1, 0), -1);
        DUE.due("no what is none", office.pool(0, 0, 0, 4), -1);
        DUE.due("the other list is open", office.stake(0, 1, 2, 5), true);
        DUE.due("close the other", office.close(0, 1, 0), true);
        DUE.due("count(5)", office.count(5), 2);
    }

    private static void asking() {
        BirdOffice office = smallOffice("list{pay 100;}");
        int[][] wrong = {{-1, 0, 0, 0}, {1, 0, 0, 0}, {0, -1, 0, 0}, {0, 1, 0, 0}, {0, 0, -1, 0},
            {0, 0, 4, 0}, {0, 0, 0, -1}, {0, 0, 0, 401}};
        for (int[] w : wrong) {
            DUE.due("prize of " + java.util.Arrays.toString(w),
                    office.prize(w[0], w[1], w[2], w[3]), -1);
        }
        int[][] wrongPool = {{-1, 0, 0, 0}, {1, 0, 0, 0}, {0, -1, 0, 0}, {0, 1, 0, 0},
            {0, 0, -1, 0}, {0, 0, 401, 0}, {0, 0, 0, -1}, {0, 0, 0, 4}};
        for (int[] w : wrongPool) {
            DUE.due("pool of " + java.util.Arrays.toString(w),
                    office.pool(w[0], w[1], w[2], w[3]), -1);
        }
        DUE.due("prize of a bird without a stake", office.prize(0, 0, 0, 0), 0);
    }

    private static void points() {
        BirdOffice office = new BirdOffice();
        office.loft(30, 40);
        for (int bird = 0; bird < 13; bird++) {
            office.bird(0, 0, 0);
        }
        int[] days = {20, 10, 30};
        for (int flight = 0; flight < 3; flight++) {
            office.flight(0, 0, 0, 5000, days[flight]);
            office.clock(flight, 0, 0, 5000, 5000);
        }
        for (int bird = 0; bird < 12; bird++) {
            // birds 9, 10, 11 share place 10
            office.strike(0, 0, bird, bird < 9 ? 100 + bird : 500, 25);
            office.strike(1, 0, bird, 100 - bird, 5);
        }
        office.strike(2, 0, 3, 7, 0);
        DUE.due("place 1 and 11 behind", office.points(0, 20, 25), 10);
        DUE.due("place 10 and 3", office.points(9, 20, 25), 1 + 8);
        DUE.due("place 10 and 1", office.points(11, 20, 25), 1 + 10);
        DUE.due("place 2 and 11", office.points(1, 20, 25), 9);
        DUE.due("place 3 and 10", office.points(2, 20, 25), 8 + 1);
        DUE.due("flown by 19", office.points(9, 19, 25), 8);
        DUE.due("known on 24", office.points(9, 20, 24), 8);
        DUE.due("flown by 9", office.points(9, 9, 400), 0);
        DUE.due("all flights", office.points(3, 400, 400), 7 + 2 + 10);
        DUE.due("by 29", office.points(3, 29, 400), 7 + 2);
        DUE.due("never flown", office.points(12, 400, 400), 0);
        office.protest(0, 0, 30);
        DUE.due("place 1 after a protest", office.points(1, 20, 30), 10);
        DUE.due("place 1 before it is known", office.points(1, 20, 29), 9);
        DUE.due("nothing for the protested", office.points(0, 20, 30), 0);
        Due.tellLists(office, "list{if ring>8;}list{}");
        DUE.due("by list 0", office.points(9, 20, 400), 10 + 8);
        DUE.due("by list 0", office.points(3, 400, 400), 0);
        int[][] wrong = {{-1, 0, 0}, {13, 0, 0}, {0, -1, 0}, {0, 401, 0}, {0, 0, -1}, {0, 0, 401}};
        for (int[] w : wrong) {
            DUE.due("points of " + java.util.Arrays.toString(w),
                    office.points(w[0], w[1], w[2]), -1);
        }
    }
}
