import java.util.Arrays;
import java.util.NoSuchElementException;

/** The office of a club that flies birds home; ../shared/DOC.md tells its promises. */
public final class BirdOffice {
    public static final int NONE = -1;

    private static final int REFUSED = -2;
    private static final int MAX_LOFTS = 8;
    private static final int MAX_BIRDS = 24;
    private static final int MAX_FLIGHTS = 6;
    private static final int MAX_STRIKES = 40;
    private static final int MAX_LISTS = 6;
    private static final int MAX_PAYS = 8;
    private static final int MAX_ROUND = 6;
    private static final int MAX_NUMBER = 99999;
    private static final int MAX_COINS = 10000;
    private static final int TAPE_BYTES = 800;
    private static final int FED_BYTES = 20;
    // Every step has a word of its own in the text, of two letters at least.
    private static final int MAX_STEPS = TAPE_BYTES / 2;
    private static final int LAST_PLACE = 2000;
    private static final int LAST_SECOND = 40000;
    private static final int LAST_DAY = 400;
    private static final int LAST_YEAR = 99;
    private static final int NEVER = LAST_DAY + 1;
    // Euclid's way ends within 92 steps for any two longs.
    private static final int EUCLID_STEPS = 100;

    private final Tape tape = new Tape();
    private final Reader reader = new Reader();
    private final Book book = new Book();
    private final Club club = new Club();
    private final Flight[] flights = new Flight[MAX_FLIGHTS];
    private int flightCount;
    // What row() tells stands apart from what other calls work out.
    private final Ranking told = new Ranking();
    private final Ranking work = new Ranking();
    private final Payout draft = new Payout();
    private final int[] earliest = new int[MAX_BIRDS];

    public BirdOffice() {
    }

    public int feed(int a, int b, int c, int d, int e) {
        if (tape.size() > TAPE_BYTES - FED_BYTES) {
            return NONE;
        }
        tape.addNumber(a);
        tape.addNumber(b);
        tape.addNumber(c);
        tape.addNumber(d);
        tape.addNumber(e);
        return tape.size();
    }

    public int lists(int n) {
        if (n < 0 || n > tape.size() || hasStakes()) {
            return REFUSED;
        }
        boolean good = reader.readBook(tape, n);
        tape.empty();
        if (!good) {
            return NONE;
        }
        book.copyFrom(reader.draft);
        openAllPurses();
        return book.size();
    }

    public int fault(int what) {
        if (what == 0) {
            return reader.faultKind();
        }
        return what == 1 ? reader.faultPlace() : NONE;
    }

    public int loft(int x, int y) {
        return isPlace(x, y) ? club.addLoft(x, y) : NONE;
    }

    public int bird(int loft, int year, int sex) {
        if (!club.hasLoft(loft) || !isWithin(year, LAST_YEAR) || !isWithin(sex, 1)) {
            return NONE;
        }
        return club.addBird(loft, year, sex);
    }

    public int flight(int x, int y, int released, int closed, int day) {
        if (!isPlace(x, y) || !isSecond(released) || !isSecond(closed) || closed <= released
                || !isDay(day) || flightCount >= MAX_FLIGHTS) {
            return NONE;
        }
        flights[flightCount] = new Flight(x, y, released, closed, day);
        return flightCount++;
    }

    public boolean clock(int flight, int loft, int set, int read, int shown) {
        Flight f = flightAt(flight);
        if (f == null || !club.hasLoft(loft) || !isSecond(set) || !isSecond(read)
                || !isSecond(shown) || read <= set) {
            return false;
        }
        f.setClock(loft, set, read, shown);
        return true;
    }

    public int strike(int flight, int loft, int bird, int second, int day) {
        Flight f = flightAt(flight);
        if (f == null || !club.hasLoft(loft) || !club.hasBird(bird) || !isSecond(second)
                || !isDay(day)) {
            return NONE;
        }
        return f.addStrike(loft, bird, second, day);
    }

    public long time(int flight, int k, int what)
            throws IndexOutOfBoundsException, NoSuchElementException {
        Flight f = flightAt(flight);
        if (f == null || !f.hasStrike(k)) {
            throw new IndexOutOfBoundsException("no such strike");
        }
        long upper = f.upperOf(k);
        long lower = f.lowerOf(k);
        if (lower == 0 || !isWithin(what, 1)) {
            throw new NoSuchElementException("no such part of a time");
        }
        long common = Math.max(1L, commonDivisor(upper, lower));
        return (what == 0 ? upper : lower) / common;
    }

    public boolean protest(int flight, int bird, int day) {
        Flight f = flightAt(flight);
        if (f == null || !club.hasBird(bird) || !isDay(day)) {
            return false;
        }
        f.addProtest(bird, day);
        return true;
    }

    public boolean clear(int flight, int bird) {
        Flight f = flightAt(flight);
        return f != null && club.hasBird(bird) && f.dropProtests(bird);
    }

    public boolean withdraw(int flight, int bird, int day) {
        Flight f = flightAt(flight);
        if (f == null || !club.hasBird(bird) || !isDay(day)) {
            return false;
        }
        f.addWithdrawal(bird, day);
        return true;
    }

    public boolean stake(int flight, int list, int bird, int coins) {
        Purse purse = purseAt(flight, list);
        if (purse == null || !club.hasBird(bird) || !isWithin(coins, MAX_COINS)
                || purse.closed) {
            return false;
        }
        purse.stakes[bird] = coins;
        return true;
    }

    public int result(int flight, int list, int day) {
        Flight f = flightAt(flight);
        if (f == null || !book.hasList(list) || !isDay(day)) {
            return NONE;
        }
        rankInto(told, f, list, day);
        return told.size();
    }

    public int row(int k, int what) {
        return told.tell(k, what);
    }

    public int faster(int flight, int a, int b, int day) {
        Flight f = flightAt(flight);
        if (f == null || !club.hasBird(a) || !club.hasBird(b) || !isDay(day)) {
            return NONE;
        }
        f.findEarliest(earliest, book.untilOf(0), day);
        long wayA = club.waySquared(a, f.x, f.y);
        long wayB = club.waySquared(b, f.x, f.y);
        int strikeA = earliest[a];
        int strikeB = earliest[b];
        if (wayA == 0 || wayB == 0 || strikeA == NONE || strikeB == NONE) {
            return NONE;
        }
        int order = compareFractions(f.velocityUpper(strikeA, wayA), f.velocityLower(strikeA),
                f.velocityUpper(strikeB, wayB), f.velocityLower(strikeB));
        return order < 0 ? 2 : order;
    }

    public long prize(int flight, int list, int bird, int day) {
        if (!club.hasBird(bird)) {
            return NONE;
        }
        Payout payout = payoutOf(flight, list, day);
        return payout == null ? NONE : payout.prizes[bird];
    }

    public long pool(int flight, int list, int day, int what) {
        Payout payout = payoutOf(flight, list, day);
        return payout == null ? NONE : payout.tell(what);
    }

    public boolean close(int flight, int list, int day) {
        Flight f = flightAt(flight);
        Purse purse = purseAt(flight, list);
        if (f == null || purse == null || !isDay(day) || purse.closed) {
            return false;
        }
        settle(purse.fixed, f, list, day);
        purse.closed = true;
        return true;
    }

    public int points(int bird, int flown, int known) {
        if (!club.hasBird(bird) || !isDay(flown) || !isDay(known)) {
            return NONE;
        }
        int sum = 0;
        for (int i = 0; i < flightCount; i++) {
            Flight f = flightAt(i);
            if (f != null && f.day <= flown) {
                rankInto(work, f, 0, known);
                sum += pointsAt(work.placeOf(bird));
            }
        }
        return sum;
    }

    public int count(int what) {
        switch (what) {
            case 0:
                return club.loftCount();
            case 1:
                return club.birdCount();
            case 2:
                return flightCount;
            case 3:
                return book.size();
            case 4:
                return countStrikes();
            case 5:
                return countClosed();
            default:
                return NONE;
        }
    }

    private static boolean isWithin(int number, int last) {
        return number >= 0 && number <= last;
    }

    private static boolean isPlace(int x, int y) {
        return isWithin(x, LAST_PLACE) && isWithin(y, LAST_PLACE);
    }

    private static boolean isSecond(int second) {
        return isWithin(second, LAST_SECOND);
    }

    private static boolean isDay(int day) {
        return isWithin(day, LAST_DAY);
    }

    private static int pointsAt(int place) {
        return place >= 1 && place <= 10 ? 11 - place : 0;
    }

    private static long commonDivisor(long a, long b) {
        long great = a;
        long small = b;
        for (int step = 0; step < EUCLID_STEPS && small != 0; step++) {
            long rest = great % small;
            great = small;
            small = rest;
        }
        return great;
    }

    /**
     * 1, 0 or -1 as a / b is above, at or below c / d, none of them below 0. Two velocities'
     * cross products pass a long, so their whole parts are compared one behind the other.
     */
    private static int compareFractions(long a, long b, long c, long d) {
        long upper = a;
        long lower = b;
        long otherUpper = c;
        long otherLower = d;
        int sign = 1;
        for (int step = 0; step < EUCLID_STEPS && lower > 0 && otherLower > 0; step++) {
            int order = Long.compare(upper / lower, otherUpper / otherLower);
            if (order != 0) {
                return order > 0 ? sign : -sign;
            }
            long rest = upper % lower;
            long otherRest = otherUpper % otherLower;
            upper = lower;
            lower = rest;
            otherUpper = otherLower;
            otherLower = otherRest;
            // What is compared now is the rests' upside down.
            sign = -sign;
        }
        if (lower == otherLower) {
            return 0;
        }
        return lower == 0 ? sign : -sign;
    }

    private Flight flightAt(int flight) {
        return flight >= 0 && flight < flightCount && flight < MAX_FLIGHTS ? flights[flight] : null;
    }

    private Purse purseAt(int flight, int list) {
        Flight f = flightAt(flight);
        return f == null || !book.hasList(list) ? null : f.purseOf(list);
    }

    private boolean hasStakes() {
        for (int i = 0; i < flightCount; i++) {
            Flight f = flightAt(i);
            if (f != null && f.hasStakes()) {
                return true;
            }
        }
        return false;
    }

    private void openAllPurses() {
        for (int i = 0; i < flightCount; i++) {
            Flight f = flightAt(i);
            if (f != null) {
                f.openPurses();
            }
        }
    }

    private int countStrikes() {
        int sum = 0;
        for (int i = 0; i < flightCount; i++) {
            Flight f = flightAt(i);
            sum += f == null ? 0 : f.strikeCount();
        }
        return sum;
    }

    private int countClosed() {
        int sum = 0;
        for (int i = 0; i < flightCount; i++) {
            Flight f = flightAt(i);
            sum += f == null ? 0 : f.closedCount();
        }
        return sum;
    }

    private void rankInto(Ranking ranking, Flight f, int list, int day) {
        ranking.empty();
        f.findEarliest(earliest, book.untilOf(list), day);
        for (int bird = 0; bird < club.birdCount() && bird < MAX_BIRDS; bird++) {
            int strike = earliest[bird];
            long way = club.waySquared(bird, f.x, f.y);
            if (strike != NONE && way > 0 && !f.isOut(bird, day)
                    && book.holds(list, club, bird)) {
                ranking.insert(bird, strike, f.velocityUpper(strike, way),
                        f.velocityLower(strike));
            }
        }
        ranking.cutLofts(book.mostOf(list), club);
        ranking.setPlaces();
    }

    private Payout payoutOf(int flight, int list, int day) {
        Flight f = flightAt(flight);
        Purse purse = purseAt(flight, list);
        if (f == null || purse == null || !isDay(day)) {
            return null;
        }
        if (purse.closed) {
            return purse.fixed;
        }
        settle(draft, f, list, day);
        return draft;
    }

    private void settle(Payout payout, Flight f, int list, int day) {
        Purse purse = f.purseOf(list);
        if (purse == null) {
            return;
        }
        rankInto(work, f, list, day);
        work.keepStaked(purse.stakes);
        payout.gather(purse.stakes, f, day);
        payout.share(work, book, list);
    }

    /** The bytes that were fed and not yet read. */
    private static final class Tape {
        private final byte[] bytes = new byte[TAPE_BYTES];
        private int size;

        int size() {
            return size;
        }

        void empty() {
            size = 0;
        }

        void addNumber(int number) {
            for (int shift = 24; shift >= 0; shift -= 8) {
                if (size < TAPE_BYTES) {
                    bytes[size++] = (byte) (number >> shift);
                }
            }
        }

        /** Bytes above 127 come as numbers below 0: no token has one, so none needs its own. */
        int byteAt(int at) {
            return at >= 0 && at < size ? bytes[at] : 0;
        }

        boolean hasText(String text, int from, int end) {
            if (text.length() != end - from) {
                return false;
            }
            for (int i = 0; i < text.length(); i++) {
                if (text.charAt(i) != byteAt(from + i)) {
                    return false;
                }
            }
            return true;
        }
    }

    /** The kinds of tokens; those without a text of their own are told by other means. */
    private enum Token {
        LIST("list"), IF("if"), MOST("most"), UNTIL("until"), PAY("pay"),
        OR("or"), AND("and"), NOT("not"),
        LOFT("loft"), YEAR("year"), SEX("sex"), RING("ring"),
        OPEN("{"), SHUT("}"), OPEN_ROUND("("), SHUT_ROUND(")"), STOP(";"),
        LESS("<"), MORE(">"), SAME("="),
        NUMBER(""), STRANGE(""), END("");

        private final String text;

        Token(String text) {
            this.text = text;
        }
    }

    /** The tokens of a text, read one behind the other: a strange one is a fault once it is reached. */
    private static final class TokenRow {
        private static final Token[] ALL_KINDS = Token.values();

        private final Token[] kinds = new Token[TAPE_BYTES + 1];
        private final int[] places = new int[TAPE_BYTES + 1];
        private final int[] values = new int[TAPE_BYTES + 1];
        private int size;
        private int next;

        void scan(Tape tape, int length) {
            size = 0;
            next = 0;
            int at = 0;
            for (int step = 0; step < length && at < length; step++) {
                int first = tape.byteAt(at);
                int end = endOfRun(tape, at, length);
                if (isDigit(first)) {
                    int value = numberIn(tape, at, end);
                    addToken(value > MAX_NUMBER ? Token.STRANGE : Token.NUMBER, at, value);
                } else if (first != 10 && first != 32) {
                    addToken(kindOf(tape, at, end), at, 0);
                }
                at = end;
            }
            addToken(Token.END, length, 0);
        }

        Token kind() {
            return next < size ? kinds[next] : Token.END;
        }

        boolean sees(Token kind) {
            return next < size && kinds[next] == kind;
        }

        int place() {
            return next < size ? places[next] : NONE;
        }

        int value() {
            return next < size ? values[next] : 0;
        }

        /** The end is never passed, so that there is always a token to be seen. */
        void pass() {
            if (next < size - 1) {
                next++;
            }
        }

        private void addToken(Token kind, int place, int value) {
            if (size <= TAPE_BYTES) {
                kinds[size] = kind;
                places[size] = place;
                values[size] = value;
                size++;
            }
        }

        private static boolean isLetter(int sign) {
            return sign >= 'a' && sign <= 'z';
        }

        private static boolean isDigit(int sign) {
            return sign >= '0' && sign <= '9';
        }

        private static int endOfRun(Tape tape, int from, int length) {
            boolean letters = isLetter(tape.byteAt(from));
            boolean digits = isDigit(tape.byteAt(from));
            for (int end = from + 1; end < length; end++) {
                int sign = tape.byteAt(end);
                if (!(letters && isLetter(sign)) && !(digits && isDigit(sign))) {
                    return end;
                }
            }
            return length;
        }

        private static int numberIn(Tape tape, int from, int end) {
            int value = 0;
            for (int at = from; at < end; at++) {
                // Held just above the limit, so that no row of digits wraps around.
                value = Math.min(value * 10 + tape.byteAt(at) - '0', MAX_NUMBER + 1);
            }
            return value;
        }

        private static Token kindOf(Tape tape, int from, int end) {
            for (Token kind : ALL_KINDS) {
                if (tape.hasText(kind.text, from, end)) {
                    return kind;
                }
            }
            return Token.STRANGE;
        }
    }

    /** Reads a text into a book of its own, so that a fault leaves the office's as it was. */
    private static final class Reader {
        private static final int NO_FAULT = 0;
        private static final int STRANGE_TOKEN = 1;
        private static final int TOO_MUCH = 2;
        private static final int WRONG_ITEM = 3;
        private static final int ITEM_KINDS = 4;

        private final TokenRow row = new TokenRow();
        private final Book draft = new Book();
        private int faultKind = NO_FAULT;

        int faultKind() {
            return faultKind;
        }

        /** Reading stops at the token that is refused, and stays there until another text comes. */
        int faultPlace() {
            return faultKind == NO_FAULT ? NONE : row.place();
        }

        boolean readBook(Tape tape, int length) {
            faultKind = NO_FAULT;
            row.scan(tape, length);
            draft.empty();
            for (int k = 0; k < MAX_LISTS; k++) {
                if (!readList()) {
                    return false;
                }
                if (row.sees(Token.END)) {
                    return true;
                }
            }
            return refuse(row.sees(Token.LIST) ? TOO_MUCH : STRANGE_TOKEN);
        }

        private boolean refuse(int kind) {
            faultKind = kind;
            return false;
        }

        private boolean take(Token kind) {
            if (!row.sees(kind)) {
                return refuse(STRANGE_TOKEN);
            }
            row.pass();
            return true;
        }

        private boolean readList() {
            if (!take(Token.LIST) || !take(Token.OPEN)) {
                return false;
            }
            draft.addList();
            // Of four kinds a fifth item is one too many: it is refused where it begins.
            for (int k = 0; k <= ITEM_KINDS && !row.sees(Token.SHUT); k++) {
                if (!readItem()) {
                    return false;
                }
            }
            return take(Token.SHUT);
        }

        private boolean readItem() {
            Token word = row.kind();
            if (word != Token.IF && word != Token.MOST && word != Token.UNTIL
                    && word != Token.PAY) {
                return refuse(STRANGE_TOKEN);
            }
            if (draft.hasItem(word)) {
                return refuse(WRONG_ITEM);
            }
            row.pass();
            boolean good = false;
            if (word == Token.IF) {
                good = readAny(0);
            } else if (word == Token.PAY) {
                good = readPays();
            } else {
                good = readLimit(word);
            }
            return good && take(Token.STOP);
        }

        private boolean readLimit(Token word) {
            int number = row.value();
            if (word == Token.MOST && row.sees(Token.NUMBER) && number == 0) {
                return refuse(WRONG_ITEM);
            }
            draft.setLimit(word, number);
            return take(Token.NUMBER);
        }

        private boolean readPays() {
            int sum = 0;
            for (int k = 0; k < MAX_PAYS; k++) {
                int number = row.value();
                sum += number;
                if (row.sees(Token.NUMBER) && sum > 100) {
                    return refuse(WRONG_ITEM);
                }
                if (!take(Token.NUMBER)) {
                    return false;
                }
                draft.addPay(number);
                if (!row.sees(Token.NUMBER)) {
                    return true;
                }
            }
            return refuse(TOO_MUCH);
        }

        private boolean readAny(int round) {
            if (!readAll(round)) {
                return false;
            }
            for (int k = 0; k < TAPE_BYTES && row.sees(Token.OR); k++) {
                row.pass();
                if (!readAll(round)) {
                    return false;
                }
                draft.addStep(Book.STEP_OR, 0);
            }
            return true;
        }

        private boolean readAll(int round) {
            if (!readFact(round)) {
                return false;
            }
            for (int k = 0; k < TAPE_BYTES && row.sees(Token.AND); k++) {
                row.pass();
                if (!readFact(round)) {
                    return false;
                }
                draft.addStep(Book.STEP_AND, 0);
            }
            return true;
        }

        private boolean readFact(int round) {
            boolean turned = row.sees(Token.NOT);
            if (turned) {
                row.pass();
            }
            boolean good = row.sees(Token.OPEN_ROUND) ? readRound(round) : readComparison();
            if (good && turned) {
                draft.addStep(Book.STEP_NOT, 0);
            }
            return good;
        }

        private boolean readRound(int round) {
            if (round >= MAX_ROUND) {
                return refuse(TOO_MUCH);
            }
            row.pass();
            return readAny(round + 1) && take(Token.SHUT_ROUND);
        }

        private boolean readComparison() {
            int subject = subjectOf(row.kind());
            if (subject == NONE) {
                return refuse(STRANGE_TOKEN);
            }
            row.pass();
            int relation = relationOf(row.kind());
            if (relation == NONE) {
                return refuse(STRANGE_TOKEN);
            }
            row.pass();
            draft.addStep(subject * Book.RELATIONS + relation, row.value());
            return take(Token.NUMBER);
        }

        private static int subjectOf(Token kind) {
            if (kind == Token.LOFT) {
                return Club.LOFT;
            }
            if (kind == Token.YEAR) {
                return Club.YEAR;
            }
            if (kind == Token.SEX) {
                return Club.SEX;
            }
            return kind == Token.RING ? Club.RING : NONE;
        }

        private static int relationOf(Token kind) {
            if (kind == Token.LESS) {
                return Book.LESS;
            }
            if (kind == Token.MORE) {
                return Book.MORE;
            }
            return kind == Token.SAME ? Book.SAME : NONE;
        }
    }

    /** The lists; the conditions of all stand in one row of steps, each part ahead of what joins it. */
    private static final class Book {
        private static final int LESS = 0;
        private static final int MORE = 1;
        private static final int SAME = 2;
        private static final int RELATIONS = 3;
        private static final int STEP_NOT = 12;
        private static final int STEP_AND = 13;
        private static final int STEP_OR = 14;

        private final int[] most = new int[MAX_LISTS];
        private final int[] until = new int[MAX_LISTS];
        private final int[] stepStart = new int[MAX_LISTS];
        private final int[] stepEnd = new int[MAX_LISTS];
        private final int[] payCount = new int[MAX_LISTS];
        private final int[] pays = new int[MAX_LISTS * MAX_PAYS];
        private final int[] steps = new int[MAX_STEPS];
        private final int[] numbers = new int[MAX_STEPS];
        private int stepCount;
        private int size;

        Book() {
            most[0] = NONE;
            until[0] = NONE;
            size = 1;
        }

        void empty() {
            size = 0;
            stepCount = 0;
        }

        void copyFrom(Book other) {
            System.arraycopy(other.most, 0, most, 0, MAX_LISTS);
            System.arraycopy(other.until, 0, until, 0, MAX_LISTS);
            System.arraycopy(other.stepStart, 0, stepStart, 0, MAX_LISTS);
            System.arraycopy(other.stepEnd, 0, stepEnd, 0, MAX_LISTS);
            System.arraycopy(other.payCount, 0, payCount, 0, MAX_LISTS);
            System.arraycopy(other.pays, 0, pays, 0, MAX_LISTS * MAX_PAYS);
            System.arraycopy(other.steps, 0, steps, 0, MAX_STEPS);
            System.arraycopy(other.numbers, 0, numbers, 0, MAX_STEPS);
            stepCount = other.stepCount;
            size = other.size;
        }

        int size() {
            return size;
        }

        boolean hasList(int list) {
            return list >= 0 && list < size;
        }

        void addList() {
            if (size < MAX_LISTS) {
                most[size] = NONE;
                until[size] = NONE;
                payCount[size] = 0;
                stepStart[size] = stepCount;
                stepEnd[size] = stepCount;
                size++;
            }
        }

        boolean hasItem(Token word) {
            int last = size - 1;
            if (last < 0) {
                return false;
            }
            if (word == Token.IF) {
                return stepEnd[last] > stepStart[last];
            }
            if (word == Token.PAY) {
                return payCount[last] > 0;
            }
            return (word == Token.MOST ? most[last] : until[last]) != NONE;
        }

        void setLimit(Token word, int number) {
            int last = size - 1;
            if (last < 0) {
                return;
            }
            if (word == Token.MOST) {
                most[last] = number;
            } else {
                until[last] = number;
            }
        }

        void addPay(int number) {
            int last = size - 1;
            if (last >= 0 && payCount[last] < MAX_PAYS) {
                pays[last * MAX_PAYS + payCount[last]] = number;
                payCount[last]++;
            }
        }

        void addStep(int step, int number) {
            int last = size - 1;
            if (last >= 0 && stepCount < MAX_STEPS) {
                steps[stepCount] = step;
                numbers[stepCount] = number;
                stepCount++;
                stepEnd[last] = stepCount;
            }
        }

        int mostOf(int list) {
            return hasList(list) ? most[list] : NONE;
        }

        int untilOf(int list) {
            return hasList(list) ? until[list] : NONE;
        }

        int payAt(int list, int i) {
            return hasList(list) && i >= 0 && i < payCount[list] ? pays[list * MAX_PAYS + i] : 0;
        }

        boolean holds(int list, Club club, int bird) {
            if (!hasList(list)) {
                return false;
            }
            // A pile of bits, the latest lowest: six rounds never pile up more than fifteen.
            int pile = 1;
            for (int i = stepStart[list]; i < stepEnd[list]; i++) {
                int step = steps[i];
                if (step == STEP_NOT) {
                    pile ^= 1;
                } else if (step == STEP_AND) {
                    pile = (pile >> 1) & (pile | ~1);
                } else if (step == STEP_OR) {
                    pile = (pile >> 1) | (pile & 1);
                } else {
                    int fact = club.factOf(step / RELATIONS, bird);
                    pile = (pile << 1) | (isTrue(fact, step % RELATIONS, numbers[i]) ? 1 : 0);
                }
            }
            return (pile & 1) == 1;
        }

        private static boolean isTrue(int fact, int relation, int number) {
            if (relation == LESS) {
                return fact < number;
            }
            return relation == MORE ? fact > number : fact == number;
        }
    }

    /** The lofts and the birds. */
    private static final class Club {
        private static final int LOFT = 0;
        private static final int YEAR = 1;
        private static final int SEX = 2;
        private static final int RING = 3;

        private final int[] loftX = new int[MAX_LOFTS];
        private final int[] loftY = new int[MAX_LOFTS];
        private final int[] birdLoft = new int[MAX_BIRDS];
        private final int[] birdYear = new int[MAX_BIRDS];
        private final int[] birdSex = new int[MAX_BIRDS];
        private int lofts;
        private int birds;

        int loftCount() {
            return lofts;
        }

        int birdCount() {
            return birds;
        }

        boolean hasLoft(int loft) {
            return loft >= 0 && loft < lofts;
        }

        boolean hasBird(int bird) {
            return bird >= 0 && bird < birds;
        }

        int addLoft(int x, int y) {
            if (lofts >= MAX_LOFTS) {
                return NONE;
            }
            loftX[lofts] = x;
            loftY[lofts] = y;
            return lofts++;
        }

        int addBird(int loft, int year, int sex) {
            if (birds >= MAX_BIRDS) {
                return NONE;
            }
            birdLoft[birds] = loft;
            birdYear[birds] = year;
            birdSex[birds] = sex;
            return birds++;
        }

        int factOf(int subject, int bird) {
            if (!hasBird(bird) || subject == RING) {
                return bird;
            }
            if (subject == LOFT) {
                return birdLoft[bird];
            }
            return subject == YEAR ? birdYear[bird] : birdSex[bird];
        }

        long waySquared(int bird, int x, int y) {
            int loft = factOf(LOFT, bird);
            if (!hasLoft(loft)) {
                return 0;
            }
            long overX = loftX[loft] - x;
            long overY = loftY[loft] - y;
            return overX * overX + overY * overY;
        }
    }

    /** A flight with its clocks, its strikes, what is known against its birds, and its purses. */
    private static final class Flight {
        private final int x;
        private final int y;
        private final int released;
        private final int closed;
        private final int day;
        // A clock not told is as one set and shown at 0: void, as it must be.
        private final int[] clockSet = new int[MAX_LOFTS];
        private final int[] clockRead = new int[MAX_LOFTS];
        private final int[] clockShown = new int[MAX_LOFTS];
        private final int[] strikeLoft = new int[MAX_STRIKES];
        private final int[] strikeBird = new int[MAX_STRIKES];
        private final int[] strikeSecond = new int[MAX_STRIKES];
        private final int[] strikeDay = new int[MAX_STRIKES];
        // A strike's time as its clock tells it now; a lower number of 0 tells that it is void.
        private final long[] timeUpper = new long[MAX_STRIKES];
        private final long[] timeLower = new long[MAX_STRIKES];
        private final int[] protestDay = new int[MAX_BIRDS];
        private final int[] withdrawalDay = new int[MAX_BIRDS];
        private final Purse[] purses = new Purse[MAX_LISTS];
        private int strikes;

        Flight(int x, int y, int released, int closed, int day) {
            this.x = x;
            this.y = y;
            this.released = released;
            this.closed = closed;
            this.day = day;
            Arrays.fill(protestDay, NEVER);
            Arrays.fill(withdrawalDay, NEVER);
            for (int list = 0; list < MAX_LISTS; list++) {
                purses[list] = new Purse();
            }
        }

        void setClock(int loft, int set, int read, int shown) {
            if (loft < 0 || loft >= MAX_LOFTS) {
                return;
            }
            clockSet[loft] = set;
            clockRead[loft] = read;
            clockShown[loft] = shown;
            for (int k = 0; k < strikes; k++) {
                if (strikeLoft[k] == loft) {
                    setTime(k, loft);
                }
            }
        }

        int addStrike(int loft, int bird, int second, int known) {
            if (strikes >= MAX_STRIKES) {
                return NONE;
            }
            strikeLoft[strikes] = loft;
            strikeBird[strikes] = bird;
            strikeSecond[strikes] = second;
            strikeDay[strikes] = known;
            setTime(strikes, loft);
            strikes++;
            return strikes;
        }

        private void setTime(int k, int loft) {
            if (k < 0 || k >= MAX_STRIKES || loft < 0 || loft >= MAX_LOFTS) {
                return;
            }
            long set = clockSet[loft];
            long second = strikeSecond[k];
            boolean told = second >= set && second <= clockShown[loft];
            timeLower[k] = told ? clockShown[loft] - set : 0;
            timeUpper[k] = set * timeLower[k] + (second - set) * (clockRead[loft] - set);
        }

        int strikeCount() {
            return strikes;
        }

        boolean hasStrike(int k) {
            return k >= 0 && k < strikes;
        }

        long upperOf(int k) {
            return k >= 0 && k < strikes ? timeUpper[k] : 0;
        }

        long lowerOf(int k) {
            return k >= 0 && k < strikes ? timeLower[k] : 0;
        }

        /** A way is a root: velocities are compared by their squares, which are fractions. */
        long velocityUpper(int k, long waySquared) {
            long lower = lowerOf(k);
            return waySquared * lower * lower;
        }

        long velocityLower(int k) {
            long flown = upperOf(k) - released * lowerOf(k);
            return flown * flown;
        }

        void findEarliest(int[] earliest, int until, int known) {
            Arrays.fill(earliest, NONE);
            int last = until == NONE ? closed : Math.min(closed, released + until);
            for (int k = 0; k < strikes; k++) {
                int bird = strikeBird[k];
                if (bird >= 0 && bird < earliest.length && strikeDay[k] <= known
                        && doesCount(k, last) && isEarlier(k, earliest[bird])) {
                    earliest[bird] = k;
                }
            }
        }

        private boolean doesCount(int k, long last) {
            long upper = upperOf(k);
            long lower = lowerOf(k);
            return lower > 0 && upper > released * lower && upper <= last * lower;
        }

        /** Of equal ones the one told first counts. */
        private boolean isEarlier(int k, int other) {
            return other == NONE || upperOf(k) * lowerOf(other) < upperOf(other) * lowerOf(k);
        }

        void addProtest(int bird, int known) {
            if (bird >= 0 && bird < MAX_BIRDS) {
                protestDay[bird] = Math.min(protestDay[bird], known);
            }
        }

        boolean dropProtests(int bird) {
            if (bird < 0 || bird >= MAX_BIRDS || protestDay[bird] == NEVER) {
                return false;
            }
            protestDay[bird] = NEVER;
            return true;
        }

        void addWithdrawal(int bird, int known) {
            if (bird >= 0 && bird < MAX_BIRDS) {
                withdrawalDay[bird] = Math.min(withdrawalDay[bird], known);
            }
        }

        boolean isWithdrawn(int bird, int known) {
            return bird >= 0 && bird < MAX_BIRDS && withdrawalDay[bird] <= known;
        }

        boolean isOut(int bird, int known) {
            return isWithdrawn(bird, known)
                    || bird >= 0 && bird < MAX_BIRDS && protestDay[bird] <= known;
        }

        Purse purseOf(int list) {
            return list >= 0 && list < MAX_LISTS ? purses[list] : null;
        }

        boolean hasStakes() {
            for (Purse purse : purses) {
                if (purse != null && purse.isStaked()) {
                    return true;
                }
            }
            return false;
        }

        void openPurses() {
            for (Purse purse : purses) {
                if (purse != null) {
                    purse.closed = false;
                }
            }
        }

        int closedCount() {
            int sum = 0;
            for (Purse purse : purses) {
                sum += purse != null && purse.closed ? 1 : 0;
            }
            return sum;
        }
    }

    /** The stakes for a flight and a list, and what was paid if its prizes are closed. */
    private static final class Purse {
        private final int[] stakes = new int[MAX_BIRDS];
        private final Payout fixed = new Payout();
        private boolean closed;

        boolean isStaked() {
            for (int coins : stakes) {
                if (coins > 0) {
                    return true;
                }
            }
            return false;
        }
    }

    /** What comes of the stakes. */
    private static final class Payout {
        private final int[] prizes = new int[MAX_BIRDS];
        private int pool;
        private int paid;
        private int back;

        int tell(int what) {
            switch (what) {
                case 0:
                    return pool;
                case 1:
                    return paid;
                case 2:
                    return pool - paid;
                case 3:
                    return back;
                default:
                    return NONE;
            }
        }

        void gather(int[] stakes, Flight f, int day) {
            pool = 0;
            back = 0;
            for (int bird = 0; bird < stakes.length; bird++) {
                if (f.isWithdrawn(bird, day)) {
                    back += stakes[bird];
                } else {
                    pool += stakes[bird];
                }
            }
        }

        void share(Ranking ranking, Book book, int list) {
            paid = 0;
            Arrays.fill(prizes, 0);
            int first = 0;
            int together = 0;
            for (int i = 0; i < ranking.size(); i++) {
                together += pool * book.payAt(list, i) / 100;
                if (!ranking.isTied(i, i + 1)) {
                    payEach(ranking, first, i + 1, together);
                    first = i + 1;
                    together = 0;
                }
            }
        }

        private void payEach(Ranking ranking, int first, int end, int together) {
            int birds = end - first;
            if (birds <= 0) {
                return;
            }
            int each = together / birds;
            for (int i = first; i < end; i++) {
                int bird = ranking.birdAt(i);
                if (bird >= 0 && bird < prizes.length) {
                    prizes[bird] = each;
                    paid += each;
                }
            }
        }
    }

    /** Birds in the order of their velocities. */
    private static final class Ranking {
        private final int[] birds = new int[MAX_BIRDS];
        private final int[] strikes = new int[MAX_BIRDS];
        private final int[] places = new int[MAX_BIRDS];
        private final long[] uppers = new long[MAX_BIRDS];
        private final long[] lowers = new long[MAX_BIRDS];
        private final int[] ofLoft = new int[MAX_LOFTS];
        private int size;

        int size() {
            return size;
        }

        void empty() {
            size = 0;
        }

        int tell(int k, int what) {
            if (k < 0 || k >= size) {
                return NONE;
            }
            switch (what) {
                case 0:
                    return birds[k];
                case 1:
                    return places[k];
                case 2:
                    return strikes[k];
                default:
                    return NONE;
            }
        }

        int birdAt(int k) {
            return k >= 0 && k < size ? birds[k] : NONE;
        }

        int placeOf(int bird) {
            for (int i = 0; i < size; i++) {
                if (birds[i] == bird) {
                    return places[i];
                }
            }
            return NONE;
        }

        /** Once places are set, equal ones tell equal velocities. */
        boolean isTied(int k, int other) {
            return k >= 0 && k < size && other >= 0 && other < size && places[k] == places[other];
        }

        /** Birds come by their numbers, so that of equal ones the lesser stays ahead. */
        void insert(int bird, int strike, long upper, long lower) {
            if (size >= MAX_BIRDS) {
                return;
            }
            int at = size;
            size++;
            while (at > 0 && compareFractions(uppers[at - 1], lowers[at - 1], upper, lower) < 0) {
                move(at - 1, at);
                at--;
            }
            birds[at] = bird;
            strikes[at] = strike;
            uppers[at] = upper;
            lowers[at] = lower;
        }

        private void move(int from, int to) {
            birds[to] = birds[from];
            strikes[to] = strikes[from];
            places[to] = places[from];
            uppers[to] = uppers[from];
            lowers[to] = lowers[from];
        }

        void cutLofts(int most, Club club) {
            if (most == NONE) {
                return;
            }
            Arrays.fill(ofLoft, 0);
            int kept = 0;
            for (int i = 0; i < size; i++) {
                int loft = club.factOf(Club.LOFT, birds[i]);
                if (loft >= 0 && loft < MAX_LOFTS && ofLoft[loft] < most) {
                    ofLoft[loft]++;
                    move(i, kept);
                    kept++;
                }
            }
            size = kept;
        }

        void keepStaked(int[] stakes) {
            int kept = 0;
            for (int i = 0; i < size; i++) {
                int bird = birds[i];
                if (bird >= 0 && bird < stakes.length && stakes[bird] > 0) {
                    move(i, kept);
                    kept++;
                }
            }
            size = kept;
        }

        void setPlaces() {
            for (int i = 0; i < size; i++) {
                boolean tied = i > 0
                        && compareFractions(uppers[i - 1], lowers[i - 1], uppers[i], lowers[i]) == 0;
                places[i] = tied ? places[i - 1] : i + 1;
            }
        }
    }
}
