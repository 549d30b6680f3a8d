import java.nio.charset.StandardCharsets;
import java.util.NoSuchElementException;

/** All promises: long runs of calls, made by a fixed row of numbers, held against PlainOffice. */
public final class RunsTest {
    private static final int RUNS = 800;
    private static final int[] EDGES = {-1, Integer.MIN_VALUE, Integer.MAX_VALUE, 401, 40001, 2001, 10001};
    private static final String[] PARTS = {"list", "if", "most", "until", "pay", "or", "and", "not",
        "loft", "year", "sex", "ring", "{", "}", "(", ")", ";", "<", ">", "=", "0", "1", "50", "60",
        "99999", "100000", "x", "?", "\n"};

    private final Due due;
    private final int run;
    private final BirdOffice office = new BirdOffice();
    private final PlainOffice plain = new PlainOffice();
    private long seed;
    private int calls;

    private RunsTest(Due due, int run) {
        this.due = due;
        this.run = run;
        this.seed = run * 7919L + 13;
    }

    public static void main(String[] args) {
        Due due = new Due();
        for (int run = 0; run < RUNS; run++) {
            new RunsTest(due, run).go();
        }
        due.end();
    }

    private int below(int n) {
        seed = seed * 6364136223846793005L + 1442695040888963407L;
        return (int) ((seed >>> 33) % n);
    }

    private void check(String call, long got, long want) {
        calls++;
        due.due("run " + run + ", call " + calls + ": " + call, got, want);
    }

    private void go() {
        for (int i = 0; i < 3 + below(4); i++) {
            addLoft();
        }
        for (int i = 0; i < 5 + below(12); i++) {
            addBird();
        }
        for (int i = 0; i < 1 + below(run % 3 * 2 + 1); i++) {
            addFlight();
        }
        while (calls < 400) {
            step(below(22));
        }
    }

    private void step(int kind) {
        switch (kind) {
            case 0 -> tellText();
            case 1 -> fewer();
            case 2 -> tellClock();
            case 3, 4, 5 -> tellStrike();
            case 6 -> askTime();
            case 7 -> against();
            case 8, 9 -> tellStake();
            case 10, 11, 12 -> askResult();
            case 13 -> askFaster();
            case 14, 15 -> askPrize();
            case 16, 17 -> askPool();
            case 18 -> tellClose();
            case 19, 20 -> askPoints();
            default -> check("count", office.count(run % 8 - 1), plain.count(run % 8 - 1));
        }
    }

    /** Mostly below a bound, sometimes far out. */
    private int some(int bound) {
        return below(40) == 0 ? EDGES[below(EDGES.length)] : below(bound + 1);
    }

    private int day() {
        return some(below(3) == 0 ? 400 : 12);
    }

    private int flight() {
        return some(Math.max(1, plain.count(2)) - 1);
    }

    private int bird() {
        return some(Math.max(1, plain.count(1)) - 1);
    }

    private int loft() {
        return some(Math.max(1, plain.count(0)) - 1);
    }

    private int list() {
        return some(Math.max(1, plain.count(3)) - 1);
    }

    /** Few places and few seconds, in half of the runs, so that velocities are often equal. */
    private int second(int bound) {
        int grain = run % 4 == 0 ? 5000 : run % 4 == 2 ? 1000 : 1;
        return some(bound / grain) * grain;
    }

    private void addLoft() {
        int grid = run % 2 == 0 ? 1 : 667;
        int x = some(3) * grid;
        int y = some(3) * grid;
        check("loft", office.loft(x, y), plain.loft(x, y));
    }

    private void addBird() {
        int l = loft();
        int year = some(99);
        int sex = some(1);
        check("bird", office.bird(l, year, sex), plain.bird(l, year, sex));
    }

    private void addFlight() {
        int grid = run % 2 == 0 ? 1 : 667;
        int x = some(3) * grid;
        int y = some(3) * grid;
        int released = second(10000);
        int closed = below(2) == 0 ? 40000 : second(40000);
        int d = day();
        check("flight", office.flight(x, y, released, closed, d), plain.flight(x, y, released, closed, d));
    }

    private void fewer() {
        int kind = below(12);
        if (kind == 0) {
            addLoft();
        } else if (kind == 1) {
            addBird();
        } else if (kind == 2) {
            addFlight();
        } else {
            check("fault", office.fault(kind % 4 - 1), plain.fault(kind % 4 - 1));
        }
    }

    private void tellClock() {
        int f = flight();
        int l = loft();
        boolean plainRun = run % 2 == 0 && below(8) != 0;
        int set = plainRun ? 0 : second(5000);
        int read = plainRun ? 40000 : second(40000);
        int shown = plainRun || below(3) == 0 ? read : second(40000);
        check("clock", office.clock(f, l, set, read, shown), plain.clock(f, l, set, read, shown));
    }

    private void check(String call, boolean got, boolean want) {
        check(call, got ? 1 : 0, want ? 1 : 0);
    }

    private void tellStrike() {
        int f = flight();
        int l = loft();
        int b = bird();
        int second = second(40000);
        int d = day();
        check("strike", office.strike(f, l, b, second, d), plain.strike(f, l, b, second, d));
    }

    private void askTime() {
        int f = flight();
        int k = some(12);
        int what = below(10) == 0 ? some(3) : below(2);
        long want = 0;
        int thrown = 0;
        try {
            want = plain.time(f, k, what);
        } catch (IndexOutOfBoundsException e) {
            thrown = Due.OUT_OF_BOUNDS;
        } catch (NoSuchElementException e) {
            thrown = Due.NO_ELEMENT;
        }
        check("time throws", Due.thrownByTime(office, f, k, what), thrown);
        if (thrown == 0) {
            check("time", office.time(f, k, what), want);
        }
    }

    private void against() {
        int f = flight();
        int b = bird();
        int d = day();
        int kind = below(4);
        if (kind <= 1) {
            check("protest", office.protest(f, b, d), plain.protest(f, b, d));
        } else if (kind == 2) {
            check("clear", office.clear(f, b), plain.clear(f, b));
        } else {
            check("withdraw", office.withdraw(f, b, d), plain.withdraw(f, b, d));
        }
    }

    private void tellStake() {
        int f = flight();
        int l = list();
        int b = bird();
        int coins = some(below(2) == 0 ? 10000 : 20);
        check("stake", office.stake(f, l, b, coins), plain.stake(f, l, b, coins));
    }

    private void askResult() {
        int f = flight();
        int l = list();
        int d = day();
        check("result", office.result(f, l, d), plain.result(f, l, d));
        for (int k = 0; k < 3; k++) {
            int at = some(12);
            int what = some(3);
            check("row", office.row(at, what), plain.row(at, what));
        }
    }

    private void askFaster() {
        int f = flight();
        int a = bird();
        int b = bird();
        int d = day();
        check("faster", office.faster(f, a, b, d), plain.faster(f, a, b, d));
    }

    private void askPrize() {
        int f = flight();
        int l = list();
        int d = day();
        for (int i = 0; i < 5; i++) {
            int b = bird();
            check("prize", office.prize(f, l, b, d), plain.prize(f, l, b, d));
        }
    }

    private void askPool() {
        int f = flight();
        int l = list();
        int d = day();
        int what = some(4);
        check("pool", office.pool(f, l, d, what), plain.pool(f, l, d, what));
    }

    private void tellClose() {
        int f = flight();
        int l = list();
        int d = day();
        if (below(3) == 0) {
            check("close", office.close(f, l, d), plain.close(f, l, d));
        }
        check("count(5)", office.count(5), plain.count(5));
    }

    private void askPoints() {
        int b = bird();
        int flown = day();
        int known = day();
        check("points", office.points(b, flown, known), plain.points(b, flown, known));
    }

    private void tellText() {
        StringBuilder text = new StringBuilder();
        int many = 1 + below(below(4) == 0 && run % 4 != 0 ? 7 : 2);
        for (int i = 0; i < many; i++) {
            text.append("list{");
            addItems(text);
            text.append('}');
        }
        spoil(text);
        // Half of the runs open their stakes, so that more texts are read.
        if (run % 4 < 2) {
            dropStakes();
        }
        byte[] bytes = text.toString().getBytes(StandardCharsets.ISO_8859_1);
        for (int i = 0; i < bytes.length; i += 20) {
            int[] n = new int[5];
            for (int j = 0; j < 20; j++) {
                n[j / 4] = n[j / 4] << 8 | (i + j < bytes.length ? bytes[i + j] & 255 : 63);
            }
            check("feed", office.feed(n[0], n[1], n[2], n[3], n[4]), plain.feed(n[0], n[1], n[2], n[3], n[4]));
        }
        int size = below(20) == 0 ? some(900) : bytes.length;
        String call = "lists of [" + text + "] " + size;
        check(call, office.lists(size), plain.lists(size));
        check(call + " fault(0)", office.fault(0), plain.fault(0));
        check(call + " fault(1)", office.fault(1), plain.fault(1));
    }

    private void dropStakes() {
        for (int[] s : plain.staked()) {
            check("stake of nothing", office.stake(s[0], s[1], s[2], 0), plain.stake(s[0], s[1], s[2], 0));
        }
    }

    private void addItems(StringBuilder text) {
        if (below(2) == 0) {
            text.append("if ");
            addCondition(text, 0);
            text.append(';');
        }
        if (below(3) == 0) {
            text.append("most ").append(1 + below(4)).append(";\n");
        }
        if (below(3) == 0) {
            text.append(" until ").append(below(3) == 0 ? 99999 : below(40) * 1000).append(';');
        }
        if (below(4) != 0) {
            text.append("pay");
            int many = 1 + below(below(10) == 0 ? 9 : 8);
            int left = below(15) == 0 ? 101 : 100;
            for (int i = 0; i < many; i++) {
                int next = below(left + 1);
                text.append(' ').append(next);
                left -= next;
            }
            text.append(" ;");
        }
    }

    private void addCondition(StringBuilder text, int depth) {
        text.append(below(4) == 0 ? "not " : "");
        if (below(3) == 0 && depth < 8) {
            text.append('(');
            addCondition(text, depth + 1);
            text.append(')');
        } else {
            text.append(PARTS[8 + below(4)]).append(PARTS[17 + below(3)]).append(below(below(2) == 0 ? 3 : 60));
        }
        if (below(3) == 0) {
            text.append(below(2) == 0 ? " or " : " and ");
            addCondition(text, depth);
        }
    }

    /** In a third of the texts a part is put in, cut out or cut off. */
    private void spoil(StringBuilder text) {
        if (below(3) != 0) {
            return;
        }
        int at = below(text.length());
        int kind = below(3);
        if (kind == 0) {
            text.insert(at, " " + PARTS[below(PARTS.length)] + " ");
        } else if (kind == 1) {
            text.deleteCharAt(at);
        } else {
            text.setLength(at);
        }
    }
}
