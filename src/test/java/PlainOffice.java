import java.math.BigInteger;
import java.util.ArrayList;
import java.util.HashMap;
import java.util.HashSet;
import java.util.List;
import java.util.Map;
import java.util.NoSuchElementException;
import java.util.Set;
import java.util.function.IntPredicate;

/** The document a second time, slow and with the whole library, to hold BirdOffice against. */
final class PlainOffice {
    record Loft(int x, int y) { }

    record Bird(int loft, int year, int sex) { }

    record Clock(int set, int read, int shown) { }

    record Strike(int loft, int bird, int second, int day) { }

    record Fraction(BigInteger upper, BigInteger lower) implements Comparable<Fraction> {
        static Fraction of(long upper, long lower) {
            BigInteger u = BigInteger.valueOf(upper);
            BigInteger l = BigInteger.valueOf(lower);
            BigInteger g = u.gcd(l);
            return new Fraction(u.divide(g), l.divide(g));
        }

        @Override
        public int compareTo(Fraction o) {
            return upper.multiply(o.lower).compareTo(o.upper.multiply(lower));
        }
    }

    record Row(int bird, int place, int strike, Fraction velocitySquared) { }

    record Settled(long pool, long back, Map<Integer, Long> prizes) {
        long paid() {
            return prizes.values().stream().mapToLong(Long::longValue).sum();
        }
    }

    static final class Flight {
        int x;
        int y;
        int released;
        int closed;
        int day;
        final Map<Integer, Clock> clocks = new HashMap<>();
        final List<Strike> strikes = new ArrayList<>();
        final Map<Integer, List<Integer>> protests = new HashMap<>();
        final Map<Integer, List<Integer>> withdrawals = new HashMap<>();
        final Map<Integer, Map<Integer, Integer>> stakes = new HashMap<>();
        final Map<Integer, Settled> fixed = new HashMap<>();
    }

    static final class Rules {
        IntPredicate condition = b -> true;
        Integer most;
        Integer until;
        List<Integer> pay = List.of();
        final Set<String> kinds = new HashSet<>();
    }

    /** Thrown at the first fault along the text. */
    private static final class Fault extends RuntimeException {
        private static final long serialVersionUID = 1L;
        final int kind;
        final int place;

        Fault(int kind, int place) {
            super(null, null, false, false);
            this.kind = kind;
            this.place = place;
        }
    }

    private final List<Loft> lofts = new ArrayList<>();
    private final List<Bird> birds = new ArrayList<>();
    private final List<Flight> flights = new ArrayList<>();
    private List<Rules> lists = new ArrayList<>(List.of(new Rules()));
    private List<Row> told = List.of();
    private final StringBuilder tape = new StringBuilder();
    private int faultKind;
    private int faultPlace = -1;

    int feed(int a, int b, int c, int d, int e) {
        if (tape.length() + 20 > 800) {
            return -1;
        }
        for (int number : new int[] {a, b, c, d, e}) {
            for (int i = 3; i >= 0; i--) {
                tape.append((char) (number >>> 8 * i & 255));
            }
        }
        return tape.length();
    }

    /** Flight, list and bird of each stake above 0. */
    List<int[]> staked() {
        List<int[]> found = new ArrayList<>();
        for (int f = 0; f < flights.size(); f++) {
            for (Map.Entry<Integer, Map<Integer, Integer>> l : flights.get(f).stakes.entrySet()) {
                for (Map.Entry<Integer, Integer> b : l.getValue().entrySet()) {
                    if (b.getValue() > 0) {
                        found.add(new int[] {f, l.getKey(), b.getKey()});
                    }
                }
            }
        }
        return found;
    }

    int lists(int n) {
        if (n < 0 || n > tape.length() || !staked().isEmpty()) {
            return -2;
        }
        String text = tape.substring(0, n);
        tape.setLength(0);
        try {
            lists = new Text(text).all();
            faultKind = 0;
            faultPlace = -1;
            flights.forEach(f -> f.fixed.clear());
            return lists.size();
        } catch (Fault f) {
            faultKind = f.kind;
            faultPlace = f.place;
            return -1;
        }
    }

    int fault(int what) {
        return what == 0 ? faultKind : what == 1 ? faultPlace : -1;
    }

    /** The text is matched a piece at a time, without tokens made ahead. */
    private final class Text {
        private final String text;
        private int at;

        Text(String text) {
            this.text = text;
        }

        private String peek() {
            while (at < text.length() && (text.charAt(at) == 10 || text.charAt(at) == 32)) {
                at++;
            }
            int end = at;
            for (String set : new String[] {"abcdefghijklmnopqrstuvwxyz", "0123456789"}) {
                while (end < text.length() && set.indexOf(text.charAt(end)) >= 0
                        && set.indexOf(text.charAt(at)) >= 0) {
                    end++;
                }
            }
            return end > at ? text.substring(at, end)
                    : at < text.length() ? text.substring(at, at + 1) : "";
        }

        private boolean accept(String token) {
            if (!peek().equals(token)) {
                return false;
            }
            at += token.length();
            return true;
        }

        private void expect(String token) {
            if (!accept(token)) {
                throw new Fault(1, at);
            }
        }

        private boolean seesNumber() {
            String t = peek();
            return !t.isEmpty() && t.charAt(0) >= '0' && t.charAt(0) <= '9'
                    && new BigInteger(t).compareTo(BigInteger.valueOf(99999)) <= 0;
        }

        private int number() {
            if (!seesNumber()) {
                throw new Fault(1, at);
            }
            String t = peek();
            at += t.length();
            return new BigInteger(t).intValue();
        }

        List<Rules> all() {
            List<Rules> found = new ArrayList<>();
            do {
                boolean more = peek().equals("list");
                if (more && found.size() == 6) {
                    throw new Fault(2, at);
                }
                found.add(one());
            } while (!peek().isEmpty());
            return found;
        }

        private Rules one() {
            Rules rules = new Rules();
            expect("list");
            expect("{");
            while (!accept("}")) {
                String kind = peek();
                if (!List.of("if", "most", "until", "pay").contains(kind)) {
                    throw new Fault(1, at);
                }
                if (!rules.kinds.add(kind)) {
                    throw new Fault(3, at);
                }
                accept(kind);
                item(rules, kind);
                expect(";");
            }
            return rules;
        }

        private void item(Rules rules, String kind) {
            peek();
            int place = at;
            switch (kind) {
                case "if" -> rules.condition = either(0);
                case "until" -> rules.until = number();
                case "most" -> {
                    rules.most = number();
                    if (rules.most == 0) {
                        throw new Fault(3, place);
                    }
                }
                default -> rules.pay = pays();
            }
        }

        private List<Integer> pays() {
            List<Integer> found = new ArrayList<>();
            do {
                peek();
                int place = at;
                int n = number();
                found.add(n);
                if (found.size() > 8) {
                    throw new Fault(2, place);
                }
                if (found.stream().mapToInt(Integer::intValue).sum() > 100) {
                    throw new Fault(3, place);
                }
            } while (seesNumber());
            return found;
        }

        private IntPredicate either(int round) {
            IntPredicate p = both(round);
            while (accept("or")) {
                p = p.or(both(round));
            }
            return p;
        }

        private IntPredicate both(int round) {
            IntPredicate p = fact(round);
            while (accept("and")) {
                p = p.and(fact(round));
            }
            return p;
        }

        private IntPredicate fact(int round) {
            boolean turned = accept("not");
            IntPredicate p;
            if (peek().equals("(")) {
                if (round == 6) {
                    throw new Fault(2, at);
                }
                accept("(");
                p = either(round + 1);
                expect(")");
            } else {
                p = comparison();
            }
            return turned ? p.negate() : p;
        }

        private IntPredicate comparison() {
            String what = peek();
            if (!List.of("loft", "year", "sex", "ring").contains(what)) {
                throw new Fault(1, at);
            }
            accept(what);
            String relation = peek();
            if (!List.of("<", ">", "=").contains(relation)) {
                throw new Fault(1, at);
            }
            accept(relation);
            int n = number();
            return b -> {
                Bird bird = birds.get(b);
                int fact = switch (what) {
                    case "loft" -> bird.loft;
                    case "year" -> bird.year;
                    case "sex" -> bird.sex;
                    default -> b;
                };
                return relation.equals("<") ? fact < n : relation.equals(">") ? fact > n : fact == n;
            };
        }
    }

    private static boolean in(int n, int last) {
        return n >= 0 && n <= last;
    }

    private Flight flightAt(int flight) {
        return in(flight, flights.size() - 1) ? flights.get(flight) : null;
    }

    private boolean hasBird(int bird) {
        return in(bird, birds.size() - 1);
    }

    private boolean hasLoft(int loft) {
        return in(loft, lofts.size() - 1);
    }

    int loft(int x, int y) {
        if (!in(x, 2000) || !in(y, 2000) || lofts.size() == 8) {
            return -1;
        }
        lofts.add(new Loft(x, y));
        return lofts.size() - 1;
    }

    int bird(int loft, int year, int sex) {
        if (!hasLoft(loft) || !in(year, 99) || !in(sex, 1) || birds.size() == 24) {
            return -1;
        }
        birds.add(new Bird(loft, year, sex));
        return birds.size() - 1;
    }

    int flight(int x, int y, int released, int closed, int day) {
        if (!in(x, 2000) || !in(y, 2000) || !in(released, 40000) || !in(closed, 40000)
                || closed <= released || !in(day, 400) || flights.size() == 6) {
            return -1;
        }
        Flight f = new Flight();
        f.x = x;
        f.y = y;
        f.released = released;
        f.closed = closed;
        f.day = day;
        flights.add(f);
        return flights.size() - 1;
    }

    boolean clock(int flight, int loft, int set, int read, int shown) {
        Flight f = flightAt(flight);
        if (f == null || !hasLoft(loft) || !in(set, 40000) || !in(read, 40000)
                || !in(shown, 40000) || read <= set) {
            return false;
        }
        f.clocks.put(loft, new Clock(set, read, shown));
        return true;
    }

    int strike(int flight, int loft, int bird, int second, int day) {
        Flight f = flightAt(flight);
        if (f == null || !hasLoft(loft) || !hasBird(bird) || !in(second, 40000) || !in(day, 400)
                || f.strikes.size() == 40) {
            return -1;
        }
        f.strikes.add(new Strike(loft, bird, second, day));
        return f.strikes.size();
    }

    private static Fraction timeOf(Flight f, Strike s) {
        Clock c = f.clocks.get(s.loft);
        if (c == null || c.shown <= c.set || s.second < c.set || s.second > c.shown) {
            return null;
        }
        long lower = c.shown - c.set;
        return Fraction.of(c.set * lower + (long) (s.second - c.set) * (c.read - c.set), lower);
    }

    long time(int flight, int k, int what) {
        Flight f = flightAt(flight);
        if (f == null || !in(k, f.strikes.size() - 1)) {
            throw new IndexOutOfBoundsException();
        }
        Fraction t = timeOf(f, f.strikes.get(k));
        if (t == null || !in(what, 1)) {
            throw new NoSuchElementException();
        }
        return (what == 0 ? t.upper : t.lower).longValueExact();
    }

    boolean protest(int flight, int bird, int day) {
        Flight f = flightAt(flight);
        if (f == null || !hasBird(bird) || !in(day, 400)) {
            return false;
        }
        f.protests.computeIfAbsent(bird, b -> new ArrayList<>()).add(day);
        return true;
    }

    boolean clear(int flight, int bird) {
        Flight f = flightAt(flight);
        return f != null && f.protests.remove(bird) != null;
    }

    boolean withdraw(int flight, int bird, int day) {
        Flight f = flightAt(flight);
        if (f == null || !hasBird(bird) || !in(day, 400)) {
            return false;
        }
        f.withdrawals.computeIfAbsent(bird, b -> new ArrayList<>()).add(day);
        return true;
    }

    boolean stake(int flight, int list, int bird, int coins) {
        Flight f = flightAt(flight);
        if (f == null || !in(list, lists.size() - 1) || !hasBird(bird) || !in(coins, 10000)
                || f.fixed.containsKey(list)) {
            return false;
        }
        f.stakes.computeIfAbsent(list, l -> new HashMap<>()).put(bird, coins);
        return true;
    }

    private static boolean isKnown(List<Integer> days, int day) {
        return days != null && days.stream().anyMatch(d -> d <= day);
    }

    /** The row of a bird by its earliest strike that counts, without a place; null if none does. */
    private Row rowOf(Flight f, int bird, Integer until, int day) {
        Loft home = lofts.get(birds.get(bird).loft);
        long way = (long) (home.x - f.x) * (home.x - f.x) + (long) (home.y - f.y) * (home.y - f.y);
        Fraction best = null;
        int by = -1;
        for (int k = 0; k < f.strikes.size(); k++) {
            Strike s = f.strikes.get(k);
            Fraction t = timeOf(f, s);
            if (s.bird == bird && s.day <= day && t != null
                    && t.compareTo(Fraction.of(f.released, 1)) > 0
                    && t.compareTo(Fraction.of(f.closed, 1)) <= 0
                    && (until == null || t.compareTo(Fraction.of(f.released + until, 1)) <= 0)
                    && (best == null || t.compareTo(best) < 0)) {
                best = t;
                by = k;
            }
        }
        if (best == null || way == 0) {
            return null;
        }
        BigInteger flown = best.upper.subtract(best.lower.multiply(BigInteger.valueOf(f.released)));
        return new Row(bird, 0, by, new Fraction(
                BigInteger.valueOf(way).multiply(best.lower).multiply(best.lower), flown.multiply(flown)));
    }

    private List<Row> rows(Flight f, int list, int day) {
        Rules rules = lists.get(list);
        List<Row> all = new ArrayList<>();
        for (int b = 0; b < birds.size(); b++) {
            Row row = rowOf(f, b, rules.until, day);
            if (row != null && !isKnown(f.protests.get(b), day) && !isKnown(f.withdrawals.get(b), day)
                    && rules.condition.test(b)) {
                all.add(row);
            }
        }
        all.sort((p, q) -> {
            int c = q.velocitySquared.compareTo(p.velocitySquared);
            return c != 0 ? c : Integer.compare(p.bird, q.bird);
        });
        List<Row> kept = new ArrayList<>();
        for (Row r : all) {
            long mates = kept.stream().filter(k -> birds.get(k.bird).loft == birds.get(r.bird).loft).count();
            if (rules.most == null || mates < rules.most) {
                kept.add(r);
            }
        }
        List<Row> placed = new ArrayList<>();
        for (Row r : kept) {
            long ahead = kept.stream().filter(k -> k.velocitySquared.compareTo(r.velocitySquared) > 0).count();
            placed.add(new Row(r.bird, 1 + (int) ahead, r.strike, r.velocitySquared));
        }
        return placed;
    }

    int result(int flight, int list, int day) {
        Flight f = flightAt(flight);
        if (f == null || !in(list, lists.size() - 1) || !in(day, 400)) {
            return -1;
        }
        told = rows(f, list, day);
        return told.size();
    }

    int row(int k, int what) {
        if (!in(k, told.size() - 1)) {
            return -1;
        }
        Row r = told.get(k);
        return what == 0 ? r.bird : what == 1 ? r.place : what == 2 ? r.strike : -1;
    }

    int faster(int flight, int a, int b, int day) {
        Flight f = flightAt(flight);
        if (f == null || !hasBird(a) || !hasBird(b) || !in(day, 400)) {
            return -1;
        }
        Row p = rowOf(f, a, lists.get(0).until, day);
        Row q = rowOf(f, b, lists.get(0).until, day);
        if (p == null || q == null) {
            return -1;
        }
        return new int[] {2, 0, 1}[1 + Integer.signum(p.velocitySquared.compareTo(q.velocitySquared))];
    }

    private Settled settled(int flight, int list, int day) {
        Flight f = flightAt(flight);
        if (f == null || !in(list, lists.size() - 1) || !in(day, 400)) {
            return null;
        }
        if (f.fixed.containsKey(list)) {
            return f.fixed.get(list);
        }
        Map<Integer, Integer> stakes = f.stakes.getOrDefault(list, Map.of());
        long pool = 0;
        long back = 0;
        for (Map.Entry<Integer, Integer> e : stakes.entrySet()) {
            boolean gone = isKnown(f.withdrawals.get(e.getKey()), day);
            pool += gone ? 0 : e.getValue();
            back += gone ? e.getValue() : 0;
        }
        List<Row> staked = new ArrayList<>(rows(f, list, day));
        staked.removeIf(r -> stakes.getOrDefault(r.bird, 0) == 0);
        Map<Integer, Long> prizes = new HashMap<>();
        for (Row r : staked) {
            long together = 0;
            int many = 0;
            for (int i = 0; i < staked.size(); i++) {
                if (staked.get(i).velocitySquared.compareTo(r.velocitySquared) == 0) {
                    many++;
                    List<Integer> pay = lists.get(list).pay;
                    together += i < pay.size() ? pool * pay.get(i) / 100 : 0;
                }
            }
            prizes.put(r.bird, together / many);
        }
        return new Settled(pool, back, prizes);
    }

    long prize(int flight, int list, int bird, int day) {
        Settled s = settled(flight, list, day);
        return s == null || !hasBird(bird) ? -1 : s.prizes.getOrDefault(bird, 0L);
    }

    long pool(int flight, int list, int day, int what) {
        Settled s = settled(flight, list, day);
        if (s == null || !in(what, 3)) {
            return -1;
        }
        return new long[] {s.pool, s.paid(), s.pool - s.paid(), s.back}[what];
    }

    boolean close(int flight, int list, int day) {
        Settled s = settled(flight, list, day);
        if (s == null || flightAt(flight).fixed.containsKey(list)) {
            return false;
        }
        flightAt(flight).fixed.put(list, s);
        return true;
    }

    int points(int bird, int flown, int known) {
        if (!hasBird(bird) || !in(flown, 400) || !in(known, 400)) {
            return -1;
        }
        int sum = 0;
        for (Flight f : flights) {
            for (Row r : f.day <= flown ? rows(f, 0, known) : List.<Row>of()) {
                sum += r.bird == bird ? Math.max(0, 11 - r.place) : 0;
            }
        }
        return sum;
    }

    int count(int what) {
        int[] counts = {lofts.size(), birds.size(), flights.size(), lists.size(),
            flights.stream().mapToInt(f -> f.strikes.size()).sum(),
            flights.stream().mapToInt(f -> f.fixed.size()).sum()};
        return in(what, 5) ? counts[what] : -1;
    }
}
