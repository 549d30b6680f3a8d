/** Promises 11, 12, 13, 15, 16, 17: protests, withdrawals, results, rows, velocities. */
public final class ResultTest {
    private static final Due DUE = new Due();

    public static void main(String[] args) {
        whichStrikesCount();
        theEarliestStrike();
        exactOrder();
        aLoftAtThePlace();
        most();
        protests();
        withdrawals();
        rows();
        faster();
        aFullOffice();
        DUE.end();
    }

    /** Two lofts 50 and 100 away, two birds each, a true clock in each loft. */
    private static BirdOffice smallOffice() {
        BirdOffice office = new BirdOffice();
        office.loft(30, 40);
        office.loft(0, 100);
        office.bird(0, 0, 0);
        office.bird(0, 0, 0);
        office.bird(1, 0, 0);
        office.bird(1, 0, 0);
        office.flight(0, 0, 1000, 5000, 7);
        office.clock(0, 0, 0, 10000, 10000);
        office.clock(0, 1, 0, 10000, 10000);
        return office;
    }

    private static void whichStrikesCount() {
        BirdOffice office = smallOffice();
        office.strike(0, 0, 0, 1000, 0);
        office.strike(0, 0, 1, 5001, 0);
        DUE.dueResult(office, 0, 0, 400);
        office.strike(0, 0, 2, 1001, 9);
        office.strike(0, 0, 3, 5000, 10);
        DUE.dueResult(office, 0, 0, 8);
        DUE.dueResult(office, 0, 0, 9, 2, 1, 2);
        DUE.dueResult(office, 0, 0, 10, 2, 1, 2, 3, 2, 3);
        DUE.dueLists(office, "list{until 4000;}list{until 3999;}list{until 1;}list{until 0;}list{until 99999;}", 5);
        DUE.due("until 4000", office.result(0, 0, 10), 2);
        DUE.due("until 3999", office.result(0, 1, 10), 1);
        DUE.due("until 1", office.result(0, 2, 10), 1);
        DUE.due("until 0", office.result(0, 3, 10), 0);
        DUE.due("until 99999 is not beyond closed", office.result(0, 4, 10), 2);
        office.clock(0, 0, 0, 9999, 10000);
        DUE.due("5001 told is 5000.4999", office.result(0, 4, 10), 2);
        office.clock(0, 0, 0, 4995, 5000);
        DUE.due("1001 told is 999.999, 5000 is 4995", office.result(0, 4, 10), 1);
        office.clock(0, 0, 4999, 5000, 5000);
        DUE.due("a clock that ran for a second", office.result(0, 4, 10), 1);
        int[][] wrong = {{-1, 0, 0}, {1, 0, 0}, {0, -1, 0}, {0, 5, 0}, {0, 0, -1}, {0, 0, 401}};
        for (int[] w : wrong) {
            DUE.due("result of " + java.util.Arrays.toString(w),
                    office.result(w[0], w[1], w[2]), -1);
        }
    }

    private static void theEarliestStrike() {
        BirdOffice office = smallOffice();
        office.strike(0, 0, 0, 3000, 1);
        office.strike(0, 1, 0, 3000, 1);
        DUE.dueResult(office, 0, 0, 1, 0, 1, 0);
        office.strike(0, 0, 0, 2000, 3);
        DUE.dueResult(office, 0, 0, 2, 0, 1, 0);
        DUE.dueResult(office, 0, 0, 3, 0, 1, 2);
        office.strike(0, 0, 0, 900, 3);
        DUE.dueResult(office, 0, 0, 3, 0, 1, 2);
        office.clock(0, 1, 0, 9999, 15000);
        DUE.dueResult(office, 0, 0, 3, 0, 1, 1);
        office.clock(0, 1, 0, 10000, 15000);
        DUE.dueResult(office, 0, 0, 3, 0, 1, 1);
        office.clock(0, 1, 0, 10001, 15000);
        DUE.dueResult(office, 0, 0, 3, 0, 1, 2);
    }

    private static void exactOrder() {
        BirdOffice office = smallOffice();
        office.strike(0, 0, 3, 3000, 0);
        office.strike(0, 0, 2, 3000, 0);
        office.strike(0, 0, 1, 2000, 0);
        office.strike(0, 0, 0, 2001, 0);
        DUE.dueResult(office, 0, 0, 0, 1, 1, 2, 2, 1, 1, 3, 1, 0, 0, 4, 3);
        dueCloseCall(new int[] {1393, 0, 985, 985, 39990, 39989, 39991, 39990, 39989, 39991}, 2);
        dueCloseCall(new int[] {1980, 0, 0, 1980, 7, 40000, 39999, 7, 40000, 39999}, 0);
        // The squares of the velocities are apart by less than one part in 10 to the 26th.
        dueCloseCall(new int[] {564, 1966, 1537, 1045, 20089, 21053, 39611, 8035, 37727, 31243}, 2);
        dueCloseCall(new int[] {1172, 1385, 1402, 958, 26077, 28247, 37216, 20682, 31802, 35507}, 1);
        dueCloseCall(new int[] {1885, 1566, 144, 1294, 23566, 27037, 33585, 9507, 31105, 29339}, 2);
        dueCloseCall(new int[] {1324, 646, 95, 134, 27157, 34433, 34010, 4492, 23558, 34519}, 1);
    }

    /** Two lofts' places, then second, read and shown of the bird's strike and clock in each. */
    private static void dueCloseCall(int[] c, int want) {
        BirdOffice office = new BirdOffice();
        office.loft(c[0], c[1]);
        office.loft(c[2], c[3]);
        office.bird(0, 0, 0);
        office.bird(1, 0, 0);
        office.flight(0, 0, 0, 40000, 0);
        office.clock(0, 0, 0, c[5], c[6]);
        office.clock(0, 1, 0, c[8], c[9]);
        office.strike(0, 0, 0, c[4], 0);
        office.strike(0, 1, 1, c[7], 0);
        String call = "close call " + java.util.Arrays.toString(c);
        DUE.due(call, office.faster(0, 0, 1, 0), want);
        DUE.due(call + " turned", office.faster(0, 1, 0, 0), want == 0 ? 0 : 3 - want);
        DUE.due(call + " result", office.result(0, 0, 0), 2);
        DUE.due(call + " first", office.row(0, 0), want == 2 ? 1 : 0);
        DUE.due(call + " place of the other", office.row(1, 1), want == 0 ? 1 : 2);
    }

    private static void aLoftAtThePlace() {
        BirdOffice office = smallOffice();
        office.flight(30, 40, 0, 40000, 0);
        office.clock(1, 0, 0, 40000, 40000);
        DUE.due("its strikes can be told", office.strike(1, 0, 0, 5, 0), 1);
        office.strike(1, 0, 2, 5, 0);
        DUE.dueResult(office, 1, 0, 0, 2, 1, 1);
        DUE.due("faster", office.faster(1, 0, 2, 0), -1);
        DUE.due("faster", office.faster(1, 2, 0, 0), -1);
        DUE.dueTime(office, 1, 0, 5, 1);
    }

    private static void most() {
        BirdOffice office = smallOffice();
        office.bird(0, 0, 0);
        office.bird(0, 0, 0);
        // loft 0's: 0 and 1 and 4 and 5; equal ones are cut by their numbers
        office.strike(0, 0, 0, 2000, 0);
        office.strike(0, 0, 1, 1500, 0);
        office.strike(0, 0, 4, 2000, 0);
        office.strike(0, 0, 5, 2000, 0);
        office.strike(0, 0, 2, 4000, 0);
        office.strike(0, 0, 3, 4900, 0);
        DUE.dueLists(office, "list{most 2;}list{most 1;if not ring=1;}", 2);
        DUE.dueResult(office, 0, 0, 0, 1, 1, 1, 0, 2, 0, 2, 3, 4, 3, 4, 5);
        DUE.dueResult(office, 0, 1, 0, 0, 1, 0, 2, 2, 4);
    }

    private static void protests() {
        BirdOffice office = smallOffice();
        office.strike(0, 0, 0, 2000, 0);
        office.strike(0, 0, 2, 2500, 0);
        office.flight(0, 0, 0, 5, 0);
        int[][] wrong = {{-1, 0, 0}, {2, 0, 0}, {0, -1, 0}, {0, 4, 0}, {0, 0, -1}, {0, 0, 401}};
        for (int[] w : wrong) {
            DUE.due("protest of " + java.util.Arrays.toString(w),
                    office.protest(w[0], w[1], w[2]), false);
        }
        DUE.due("clear without any", office.clear(0, 2), false);
        DUE.due("protest", office.protest(0, 2, 20), true);
        DUE.due("a later protest", office.protest(0, 2, 30), true);
        DUE.dueResult(office, 0, 0, 19, 2, 1, 1, 0, 2, 0);
        DUE.dueResult(office, 0, 0, 20, 0, 1, 0);
        DUE.due("an earlier protest", office.protest(0, 2, 10), true);
        DUE.dueResult(office, 0, 0, 10, 0, 1, 0);
        DUE.dueResult(office, 0, 0, 9, 2, 1, 1, 0, 2, 0);
        DUE.due("clear of another flight", office.clear(1, 2), false);
        DUE.due("clear of another bird", office.clear(0, 0), false);
        DUE.due("clear of no flight", office.clear(2, 2), false);
        DUE.due("clear of no flight", office.clear(-1, 2), false);
        DUE.due("clear of no bird", office.clear(0, 4), false);
        DUE.due("clear of no bird", office.clear(0, -1), false);
        DUE.due("clear", office.clear(0, 2), true);
        DUE.due("clear again", office.clear(0, 2), false);
        DUE.dueResult(office, 0, 0, 400, 2, 1, 1, 0, 2, 0);
        DUE.due("protest on the last day", office.protest(0, 2, 400), true);
        DUE.dueResult(office, 0, 0, 399, 2, 1, 1, 0, 2, 0);
        DUE.dueResult(office, 0, 0, 400, 0, 1, 0);
        DUE.due("clear of that", office.clear(0, 2), true);
        DUE.due("protest on the first day", office.protest(0, 2, 0), true);
        DUE.dueResult(office, 0, 0, 0, 0, 1, 0);
    }

    private static void withdrawals() {
        BirdOffice office = smallOffice();
        office.strike(0, 0, 0, 2000, 0);
        office.strike(0, 0, 2, 2500, 0);
        int[][] wrong = {{-1, 0, 0}, {1, 0, 0}, {0, -1, 0}, {0, 4, 0}, {0, 0, -1}, {0, 0, 401}};
        for (int[] w : wrong) {
            DUE.due("withdraw of " + java.util.Arrays.toString(w),
                    office.withdraw(w[0], w[1], w[2]), false);
        }
        DUE.due("withdraw", office.withdraw(0, 0, 20), true);
        DUE.due("withdraw later", office.withdraw(0, 0, 25), true);
        DUE.due("clear is for protests alone", office.clear(0, 0), false);
        DUE.dueResult(office, 0, 0, 19, 2, 1, 1, 0, 2, 0);
        DUE.dueResult(office, 0, 0, 20, 2, 1, 1);
        DUE.due("withdraw earlier", office.withdraw(0, 0, 15), true);
        DUE.dueResult(office, 0, 0, 14, 2, 1, 1, 0, 2, 0);
        DUE.dueResult(office, 0, 0, 15, 2, 1, 1);
    }

    private static void rows() {
        BirdOffice office = smallOffice();
        office.strike(0, 0, 3, 2000, 0);
        office.strike(0, 0, 1, 2000, 0);
        DUE.dueResult(office, 0, 0, 0, 3, 1, 0, 1, 2, 1);
        DUE.dueLists(office, "list{if ring=1;pay 9;}", 1);
        office.protest(0, 3, 0);
        office.clock(0, 0, 0, 5, 0);
        office.bird(0, 0, 0);
        office.points(1, 400, 400);
        office.pool(0, 0, 0, 0);
        office.prize(0, 0, 0, 0);
        office.faster(0, 1, 3, 0);
        office.close(0, 0, 0);
        DUE.due("NONE leaves the rows", office.result(0, 9, 0), -1);
        int[] rows = {3, 1, 0, 1, 2, 1};
        for (int i = 0; i < rows.length; i++) {
            DUE.due("row as it was then", office.row(i / 3, i % 3), rows[i]);
        }
        DUE.due("row(-1, 0)", office.row(-1, 0), -1);
        DUE.due("row(2, 0)", office.row(2, 0), -1);
        DUE.due("row(0, -1)", office.row(0, -1), -1);
        DUE.due("row(0, 3)", office.row(0, 3), -1);
        DUE.due("row(MIN, 0)", office.row(Integer.MIN_VALUE, 0), -1);
        DUE.due("row(MAX, 0)", office.row(Integer.MAX_VALUE, 0), -1);
        DUE.dueResult(office, 0, 0, 0);
    }

    private static void faster() {
        BirdOffice office = smallOffice();
        office.strike(0, 0, 0, 2000, 3);
        office.strike(0, 0, 2, 3000, 4);
        office.strike(0, 0, 3, 3001, 0);
        DUE.due("faster: equal", office.faster(0, 0, 2, 4), 0);
        DUE.due("faster: itself", office.faster(0, 2, 2, 4), 0);
        DUE.due("faster: the first", office.faster(0, 0, 3, 4), 1);
        DUE.due("faster: the second", office.faster(0, 3, 2, 4), 2);
        DUE.due("faster: not known yet", office.faster(0, 0, 2, 3), -1);
        DUE.due("faster: without a strike", office.faster(0, 0, 1, 4), -1);
        DUE.due("faster: without a strike", office.faster(0, 1, 0, 4), -1);
        office.protest(0, 0, 0);
        office.withdraw(0, 3, 0);
        DUE.due("protests and withdrawals are none of it", office.faster(0, 0, 3, 4), 1);
        office.strike(0, 0, 2, 2999, 5);
        DUE.due("faster: by the earliest", office.faster(0, 0, 2, 5), 2);
        DUE.dueLists(office, "list{until 2000;if ring=9;most 1;}list{until 5;}", 2);
        DUE.due("until of list 0 holds one", office.faster(0, 0, 2, 4), 0);
        DUE.due("until of list 0 bars one", office.faster(0, 0, 3, 4), -1);
        int[][] wrong = {{-1, 0, 2, 4}, {1, 0, 2, 4}, {0, -1, 2, 4}, {0, 0, 4, 4}, {0, 4, 0, 4},
            {0, 0, -1, 4}, {0, 0, 2, -1}, {0, 0, 2, 401}};
        for (int[] w : wrong) {
            DUE.due("faster of " + java.util.Arrays.toString(w),
                    office.faster(w[0], w[1], w[2], w[3]), -1);
        }
    }

    /** As many of all as the document allows, each clock told again behind the strikes. */
    private static void aFullOffice() {
        BirdOffice office = new BirdOffice();
        for (int i = 0; i < 8; i++) {
            office.loft(2000, 2000);
        }
        for (int i = 0; i < 24; i++) {
            office.bird(i % 8, i, 0);
        }
        Due.tellLists(office, "list{pay 40 30;}list{}list{}list{}list{}list{most 2;}");
        for (int f = 0; f < 6; f++) {
            office.flight(0, 0, 0, 40000, f);
            for (int k = 0; k < 40; k++) {
                office.strike(f, 7, k % 24, 40000 - k, 0);
            }
            DUE.due("no clock yet", office.result(f, 0, 0), 0);
            DUE.due("clock", office.clock(f, 7, 0, 40000, 40000), true);
            DUE.due("all home", office.result(f, 0, 0), 24);
            DUE.due("the first", office.row(0, 0), 15);
            DUE.due("the first's strike", office.row(0, 2), 39);
            DUE.due("the last", office.row(23, 0), 16);
            DUE.due("the last's place", office.row(23, 1), 24);
            DUE.due("no row behind it", office.row(24, 0), -1);
            DUE.due("two of each loft", office.result(f, 5, 0), 16);
        }
        DUE.due("points over six flights", office.points(15, 400, 400), 60);
        DUE.due("points over three flights", office.points(14, 2, 400), 27);
        for (int bird = 0; bird < 24; bird++) {
            office.stake(5, 0, bird, 10000);
        }
        DUE.due("the first's prize", office.prize(5, 0, 15, 0), 96000);
        DUE.due("the pool", office.pool(5, 0, 0, 0), 240000);
        DUE.due("all prizes", office.pool(5, 0, 0, 1), 168000);
        DUE.due("count(4)", office.count(4), 240);
    }
}
