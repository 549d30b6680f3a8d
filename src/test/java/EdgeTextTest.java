/** The edges of promises 2, 3 and 4 and of the terms' second part, a sentence at a time. */
public final class EdgeTextTest {
    private static final Due DUE = new Due();
    private static final Edges EDGES = new Edges(DUE);
    private static final String SIX = "list{}".repeat(6);

    /** Each word in a text where it may stand. */
    private static final String[][] WORDS = {{"", "list", "{}"}, {"list{", "if", " sex=1;}"},
        {"list{", "most", " 1;}"}, {"list{", "until", " 1;}"}, {"list{", "pay", " 1;}"},
        {"list{if sex=1 ", "or", " sex=1;}"}, {"list{if sex=1 ", "and", " sex=1;}"},
        {"list{if ", "not", " sex=1;}"}, {"list{if ", "loft", "=1;}"}, {"list{if ", "year", "=1;}"},
        {"list{if ", "sex", "=1;}"}, {"list{if ", "ring", "=1;}"}};

    /** Each kind of number in a text where it may stand. */
    private static final String[][] NUMBERS = {{"list{most ", ";}"}, {"list{until ", ";}"},
        {"list{pay ", ";}"}, {"list{pay 0 ", ";}"}, {"list{if loft<", ";}"}, {"list{if not(year>", ");}"},
        {"list{if sex=", " or ring=1;}"}};

    public static void main(String[] args) {
        atMostEightHundredBytes();
        theHighestByteFirst();
        nOutsideTheTape();
        theFirstBytesAlone();
        theTapeIsEmptyThen();
        someStakeIsAboveNothing();
        closedPrizesAreNone();
        theListsFromNowOn();
        withAFaultTheListsStay();
        ofTheLatestThatWasNotRefused();
        whatOfAFault();
        tokenTests();
        grammarTests();
        conditionTests();
        faultTests();
        DUE.end();
    }

    private static void tokenTests() {
        blanks();
        everyByte();
        everyWord();
        signsAreTokensAlone();
        numbersInRange();
        numbersThatWrapAround();
        numbersAsTheyAre();
    }

    private static void grammarTests() {
        atLeastOneList();
        atMostSixLists();
        anyItemsOrNone();
        eachKindOnce();
        atLeastOneNumberOfAPay();
        oneNotAtMost();
        moreMustCome();
        asManyTokensAsBytes();
    }

    private static void conditionTests() {
        relationsAtTheirEdges();
        theDeepestCondition();
        theLongestConditions();
    }

    private static void faultTests() {
        theFirstAlongTheText();
        ofOnePlaceTheLeast();
        aRoundWithinSixOthers();
        aNinthNumberOfAPay();
        moreThanAHundred();
        aMostOfNothing();
    }

    private static BirdOffice fed(String text) {
        BirdOffice office = new BirdOffice();
        Due.feedText(office, text);
        return office;
    }

    private static void dueFault(String text, int kind, int place) {
        DUE.dueFault(new BirdOffice(), text, kind, place);
    }

    private static void dueLists(String text, int count) {
        DUE.dueLists(new BirdOffice(), text, count);
    }

    /** "NONE, and none come, if it would have more than 800." */
    private static void atMostEightHundredBytes() {
        BirdOffice office = fed("list{most 1;}" + " ".repeat(767));
        int blank = 0x20202020;
        DUE.due("bytes 781 to 800", office.feed(blank, blank, blank, blank, blank), 800);
        for (int i = 0; i < 3; i++) {
            DUE.due("bytes 801 to 820", office.feed(-1, -1, -1, -1, -1), -1);
        }
        DUE.due("there are no more than 800", office.lists(801), -2);
        DUE.due("there are 800, as they were fed", office.lists(800), 1);
        DUE.due("an emptied tape takes bytes again", office.feed(-1, -1, -1, -1, -1), 20);
    }

    /** "four of each number, the highest first" */
    private static void theHighestByteFirst() {
        BirdOffice office = new BirdOffice();
        DUE.due("feed", office.feed(0x6c697374, 0x7b6d6f73, 0x7420313b, 0x70617920, 0x39203b7d), 20);
        DUE.due("twenty bytes in their order", office.lists(20), 1);
        int[] ends = {Integer.MIN_VALUE, 0x00ffffff, 0x7fffffff, -1, 0};
        for (int end : ends) {
            office.feed(0x6c697374, 0x7b7d2020, end, end, end);
            DUE.due("eight bytes", office.lists(8), 1);
            office.feed(0x6c697374, 0x7b7d2020, end, end, end);
            DUE.due("nine bytes", office.lists(9), -1);
            DUE.due("the ninth is none", office.fault(0), 1);
            DUE.due("its place", office.fault(1), 8);
        }
    }

    /** "-2: n is below 0 or more than there are (the TAPE stays)" */
    private static void nOutsideTheTape() {
        BirdOffice empty = new BirdOffice();
        DUE.due("more than nothing", empty.lists(1), -2);
        DUE.due("less than nothing", empty.lists(-1), -2);
        DUE.due("nothing of nothing", empty.lists(0), -1);
        int[] wrong = {-1, 21, 276, 65536 + 6, -65536 + 6, Integer.MIN_VALUE, Integer.MIN_VALUE + 6,
            Integer.MAX_VALUE};
        for (int n : wrong) {
            BirdOffice office = fed("list{}list{}");
            DUE.due("lists(" + n + ")", office.lists(n), -2);
            DUE.due("lists(" + n + ") leaves the lists", office.count(3), 1);
            DUE.due("lists(" + n + ") leaves the tape", office.lists(12), 2);
            office = fed("list{}list{}");
            office.lists(n);
            DUE.due("the tape goes on", office.feed(0, 0, 0, 0, 0), 40);
            DUE.due("lists(41)", office.lists(41), -2);
            DUE.due("lists(40)", office.lists(40), -1);
        }
        DUE.due("all there are", fed("list{}list{}list{}  ").lists(20), 3);
        for (int n : wrong) {
            EDGES.refused("lists", Edges.LISTS, -2, n);
        }
    }

    /** "The TAPE's first n bytes" */
    private static void theFirstBytesAlone() {
        int[] answers = {-1, -1, -1, -1, -1, -1, 1, -1, -1, -1, -1, -1, 2, -1};
        int[] places = {0, 0, 0, 0, 4, 5, -1, 6, 6, 6, 10, 11, -1, 12};
        for (int n = 0; n < answers.length; n++) {
            BirdOffice office = fed("list{}list{}");
            DUE.due("lists(" + n + ")", office.lists(n), answers[n]);
            DUE.due("lists(" + n + ") fault", office.fault(0), answers[n] < 0 ? 1 : 0);
            DUE.due("lists(" + n + ") place", office.fault(1), places[n]);
        }
    }

    /** "(it is empty then)", with a FAULT or without, and whatever stood behind the first n. */
    private static void theTapeIsEmptyThen() {
        for (int n : new int[] {0, 6, 10, 12, 20}) {
            BirdOffice office = fed("list{}list{}");
            office.lists(n);
            DUE.due("empty behind lists(" + n + ")", office.lists(1), -2);
            DUE.due("fed behind lists(" + n + ")", Due.feedText(office, "list{most 7;}"), 20);
            DUE.due("read behind lists(" + n + ")", office.lists(13), 1);
        }
        BirdOffice full = fed("list{}" + " ".repeat(794));
        DUE.due("the full tape", full.lists(800), 1);
        DUE.due("is empty", Due.feedText(full, "list{}".repeat(133) + "  "), 800);
        DUE.due("and read again", full.lists(6), 1);
    }

    /** "-2: ... or some stake is above 0." */
    private static void someStakeIsAboveNothing() {
        for (int flight = 0; flight < 6; flight += 5) {
            for (int list = 0; list < 6; list += 5) {
                for (int bird = 0; bird < 24; bird += 23) {
                    oneStake(flight, list, bird);
                }
            }
        }
        EDGES.refused("lists", Edges.LISTS, -2, 0);
        EDGES.refused("lists", Edges.LISTS, -2, 6);
        EDGES.refused("lists", Edges.LISTS, -2, 20);
    }

    private static void oneStake(int flight, int list, int bird) {
        BirdOffice office = new BirdOffice();
        office.loft(0, 0);
        for (int i = 0; i < 24; i++) {
            office.bird(0, 0, 0);
        }
        for (int i = 0; i < 6; i++) {
            office.flight(0, 0, 0, 1, 0);
        }
        Due.tellLists(office, SIX);
        office.stake(flight, list, bird, 0);
        DUE.due("a stake of 0 bars nothing", Due.tellLists(office, SIX), 6);
        office.stake(flight, list, bird, 1);
        DUE.due("a stake of 1 bars a text", Due.tellLists(office, "list{}"), -2);
        DUE.due("the lists stay", office.count(3), 6);
        DUE.due("the fault stays", office.fault(0), 0);
        office.stake(flight, list, bird, 0);
        DUE.due("a stake taken back bars nothing", Due.tellLists(office, "list{}"), 1);
    }

    /** "CLOSED prizes are none" */
    private static void closedPrizesAreNone() {
        BirdOffice office = new BirdOffice();
        office.loft(0, 0);
        office.bird(0, 0, 0);
        for (int flight = 0; flight < 6; flight++) {
            office.flight(0, 0, 0, 1, 0);
        }
        Due.tellLists(office, SIX);
        for (int i = 0; i < 36; i++) {
            office.close(i / 6, i % 6, 0);
        }
        DUE.due("all are closed", office.count(5), 36);
        DUE.due("a refused text", office.lists(1), -2);
        DUE.due("leaves them", office.count(5), 36);
        DUE.dueFault(office, SIX + "list", 2, 36);
        DUE.due("a faulty text leaves them", office.count(5), 36);
        DUE.dueLists(office, SIX, 6);
        DUE.due("a good one does not", office.count(5), 0);
        for (int i = 0; i < 36; i++) {
            DUE.due("open for stakes", office.stake(i / 6, i % 6, 0, 1), true);
        }
    }

    /** "are the LISTS from now on": six in full, then six of which nothing of the former is left. */
    private static void theListsFromNowOn() {
        BirdOffice office = allHome();
        StringBuilder text = new StringBuilder();
        for (int list = 0; list < 6; list++) {
            text.append("list{if ring>").append(list).append(";most ").append(1 + list % 3).append(";until ")
                    .append(122 - list).append(";pay ").append(list).append(" 1 2 3 4 5 6 ").append(7 + list)
                    .append(";}");
        }
        DUE.dueLists(office, text.toString(), 6);
        // Birds 1 .. 22, 2 .. 21, 3 .. 20, 4 .. 19, 5 .. 18, 6 .. 17: three of a loft, or as many as most tells.
        int[] in = {8, 14, 18, 6, 10, 12};
        for (int list = 0; list < 6; list++) {
            DUE.due("in list " + list, office.result(0, list, 0), in[list]);
            DUE.due("the first of list " + list, office.row(0, 0), list + 1);
            DUE.due("the eighth prize of list " + list, eighthPrize(office, list), in[list] < 8 ? 0 : 7 + list);
        }
        DUE.dueLists(office, "list{until 123;}list{}list{pay 9;}list{most 1;}list{if ring=23;}list{}", 6);
        int[] many = {24, 24, 24, 8, 1, 24};
        for (int list = 0; list < 6; list++) {
            DUE.due("in list " + list, office.result(0, list, 0), many[list]);
            DUE.due("the eighth prize of list " + list, eighthPrize(office, list), 0);
        }
        DUE.dueLists(office, "list{}", 1);
        DUE.due("list 0 has all", office.result(0, 0, 0), 24);
        DUE.due("there is no list 1", office.result(0, 1, 0), -1);
    }

    /** What the eighth of the latest rows would have of a pool of 100; the stakes are taken back. */
    private static long eighthPrize(BirdOffice office, int list) {
        if (office.row(7, 0) < 0) {
            return 0;
        }
        for (int k = 0; k < 8; k++) {
            office.stake(0, list, office.row(k, 0), k == 0 ? 93 : 1);
        }
        long prize = office.prize(0, list, office.row(7, 0), 0);
        for (int k = 0; k < 8; k++) {
            office.stake(0, list, office.row(k, 0), 0);
        }
        return prize;
    }

    /** "NONE with a FAULT (the LISTS stay)" */
    private static void withAFaultTheListsStay() {
        String[] faulty = {"", "list", "list{until 5;most 3;if ring=0;pay 1;}list{", SIX + "list{}",
            "list{}list{most 0;}", "list{until 5;}list{if ring=0;if"};
        for (String text : faulty) {
            BirdOffice office = new BirdOffice();
            office.loft(0, 3);
            office.bird(0, 0, 0);
            office.bird(0, 0, 0);
            office.flight(0, 0, 0, 40000, 0);
            office.clock(0, 0, 0, 40000, 40000);
            office.strike(0, 0, 0, 9, 0);
            office.strike(0, 0, 1, 10, 0);
            DUE.dueLists(office, "list{until 10;most 1;if ring=1;pay 40;}list{until 9;}", 2);
            DUE.due("lists of [" + text + "]", Due.tellLists(office, text), -1);
            DUE.due("lists behind [" + text + "]", office.count(3), 2);
            DUE.dueResult(office, 0, 0, 0, 1, 1, 1);
            DUE.dueResult(office, 0, 1, 0, 0, 1, 0);
            office.stake(0, 0, 1, 100);
            DUE.due("pay behind [" + text + "]", office.prize(0, 0, 1, 0), 40);
        }
    }

    /** "Of the latest lists() that was not -2, what 0: its FAULT (0), 1: its place (NONE without)." */
    private static void ofTheLatestThatWasNotRefused() {
        BirdOffice office = new BirdOffice();
        DUE.due("no text yet", office.fault(0), 0);
        DUE.due("no place yet", office.fault(1), -1);
        DUE.due("refused", office.lists(1), -2);
        DUE.due("no text yet", office.fault(0), 0);
        DUE.due("no place yet", office.fault(1), -1);
        DUE.dueFault(office, "list{pay 101;}", 3, 9);
        Due.feedText(office, "list{}");
        DUE.due("refused", office.lists(-1), -2);
        DUE.due("refused", office.lists(21), -2);
        DUE.due("still the former's", office.fault(0), 3);
        DUE.due("still the former's place", office.fault(1), 9);
        DUE.due("taken", office.lists(6), 1);
        DUE.due("without a fault", office.fault(0), 0);
        DUE.due("without a place", office.fault(1), -1);
        DUE.dueFault(office, "", 1, 0);
        DUE.dueFault(office, SIX + "list", 2, 36);
    }

    /** "NONE for another what." */
    private static void whatOfAFault() {
        EDGES.range("fault", Edges.FAULT, Edges.NONE, 0, 0, 1, 0);
        DUE.due("without a fault", new BirdOffice().fault(2), -1);
    }

    /** "Blanks 10, 32": anywhere between tokens, as many as there are, or none. */
    private static void blanks() {
        dueLists("list{if not(loft<1or year>2)and sex=0;most 1;until 2;pay 3 4;}list{}", 2);
        dueLists(" list { if not ( loft < 1 or year > 2 ) and sex = 0 ; most 1 ; until 2 ; pay 3 4 ; } list { } ", 2);
        dueLists("\nlist\n{\nif\nnot\n(\nloft\n<\n1\nor\nyear\n>\n2\n)\nand\nsex\n=\n0\n;\npay\n3\n4\n;\n}\n", 1);
        dueLists(" \n \nlist\n\n  {}" + "\n ".repeat(300), 1);
        dueFault(" ".repeat(800), 1, 800);
        dueFault("\n", 1, 1);
    }

    /** "1 a TOKEN that is none": a byte that begins no token, of all 256. */
    private static void everyByte() {
        for (int sign = 0; sign < 256; sign++) {
            String text = "list{" + (char) sign + "}";
            if (sign == 10 || sign == 32) {
                dueLists(text, 1);
            } else {
                dueFault(text, 1, sign == '}' ? 6 : 5);
            }
            String behind = "list{}" + (char) sign;
            if (sign == 10 || sign == 32) {
                dueLists(behind, 1);
            } else {
                dueFault(behind, 1, 6);
            }
        }
    }

    /** "words (small letters, as many as stand in a row)": none is shorter, longer or of capitals. */
    private static void everyWord() {
        for (String[] w : WORDS) {
            String word = w[1];
            dueLists(w[0] + word + w[2], 1);
            String[] wrong = {word + "a", word + "z", "a" + word, "z" + word, word + word,
                word.substring(0, word.length() - 1), word.substring(1), word.toUpperCase(),
                word.substring(0, 1).toUpperCase() + word.substring(1)};
            for (String other : wrong) {
                dueFault(w[0] + other + w[2], 1, w[0].length());
            }
            String parted = word.substring(0, 1) + " " + word.substring(1);
            dueFault(w[0] + parted + w[2], 1, w[0].length());
            dueFault(w[0] + word + "A" + w[2], 1, w[0].length() + word.length());
        }
    }

    /** "{ } ( ) ; < > =": a sign is a token by itself, whatever stands behind it. */
    private static void signsAreTokensAlone() {
        dueLists("list{if((ring<1));}list{}", 2);
        dueFault("list{{}", 1, 5);
        dueFault("list{if ring<<1;}", 1, 13);
        dueFault("list{if ring==1;}", 1, 13);
        dueFault("list{if ring>=1;}", 1, 13);
        dueFault("list{if ring<>1;}", 1, 13);
        dueFault("list{most 1;;}", 1, 12);
        dueFault("list{if (ring=1));}", 1, 16);
    }

    /** "numbers (digits) 0 .. 99999" */
    private static void numbersInRange() {
        for (String[] n : NUMBERS) {
            dueLists(n[0] + "1" + n[1], 1);
            dueFault(n[0] + "100000" + n[1], 1, n[0].length());
            dueFault(n[0] + "-1" + n[1], 1, n[0].length());
            dueFault(n[0] + "or" + n[1], 1, n[0].length());
            if (n[0].contains("pay")) {
                dueLists(n[0] + "0" + n[1], 1);
                dueFault(n[0] + "99999" + n[1], 3, n[0].length());
            } else {
                dueLists(n[0] + "99999" + n[1], 1);
                dueLists(n[0] + "00001" + n[1], 1);
            }
            if (!n[0].contains("most")) {
                dueLists(n[0] + "0" + n[1], 1);
            }
        }
    }

    /** "numbers ... 0 .. 99999": so large that an int or a long comes round to 1 or to 0. */
    private static void numbersThatWrapAround() {
        String[] wrong = {"2147483647", "2147483648", "4294967296", "4294967297", "9223372036854775807",
            "9223372036854775808", "18446744073709551616", "18446744073709551617",
            "340282366920938463463374607431768211457", "1" + "0".repeat(700), "9".repeat(700)};
        for (String[] n : NUMBERS) {
            for (String number : wrong) {
                dueFault(n[0] + number + n[1], 1, n[0].length());
            }
        }
    }

    /** "numbers (digits) 0 .. 99999": those taken are held in full, not in a byte or a short. */
    private static void numbersAsTheyAre() {
        BirdOffice office = new BirdOffice();
        office.loft(0, 1);
        office.bird(0, 0, 0);
        office.bird(0, 99, 1);
        office.flight(0, 0, 0, 40000, 0);
        office.clock(0, 0, 0, 40000, 40000);
        office.strike(0, 0, 0, 40000, 0);
        office.strike(0, 0, 1, 40000, 0);
        String[] none = {"if loft=256", "if loft=65536", "if year=256", "if year=65635", "if sex=65537",
            "if ring=65536", "if year>65536", "if not ring<99999", "until 39999", "until 0"};
        for (String item : none) {
            DUE.dueLists(office, "list{" + item + ";}", 1);
            DUE.due("in it by " + item, office.result(0, 0, 0), 0);
        }
        String[] both = {"if year<65536", "if ring<99999", "most 256", "most 65536", "most 99999", "until 40000",
            "until 65536", "until 99999", "most 2", "if not year=99999"};
        for (String item : both) {
            DUE.dueLists(office, "list{" + item + ";}", 1);
            DUE.due("in it by " + item, office.result(0, 0, 0), 2);
        }
    }

    /** "TEXT: LIST { LIST }" */
    private static void atLeastOneList() {
        dueFault("", 1, 0);
        dueFault(" ", 1, 1);
        dueFault("\n\n\n", 1, 3);
        dueLists("list{}", 1);
    }

    /** "at most 6": "2 too much: a seventh LIST (at the word)" */
    private static void atMostSixLists() {
        dueLists("list{}".repeat(5), 5);
        dueLists(SIX, 6);
        dueLists(SIX + "\n ", 6);
        dueFault(SIX + "list{}", 2, 36);
        dueFault(SIX + " \n list", 2, 39);
        dueFault(SIX + "list{}list{}", 2, 36);
        dueFault(SIX + "lis", 1, 36);
        dueFault(SIX + "{}", 1, 36);
        dueFault("list{}".repeat(133), 2, 36);
    }

    /** "LIST: list '{' { ITEM } '}'" */
    private static void anyItemsOrNone() {
        dueLists("list{}", 1);
        dueLists("list{most 1;}", 1);
        dueLists("list{pay 1;until 1;most 1;if sex=1;}", 1);
        dueFault("list{pay 1;until 1;most 1;if sex=1;", 1, 35);
        dueFault("list{pay 1;until 1;most 1;if sex=1;;}", 1, 35);
        dueFault("list{pay 1;until 1;most 1;if sex=1;list", 1, 35);
        dueFault("list{most 1}", 1, 11);
        dueFault("list}", 1, 4);
    }

    /** "each kind once at most": "3 an ITEM of a kind that its LIST has (at the word)" */
    private static void eachKindOnce() {
        String[] items = {"if sex=0;", "most 1;", "until 0;", "pay 0;"};
        for (String first : items) {
            String word = first.substring(0, first.indexOf(' '));
            dueFault("list{" + first + " " + first + "}", 3, 6 + first.length());
            dueFault("list{" + first + word, 3, 5 + first.length());
            dueLists("list{" + first + "}list{" + first + "}", 2);
            StringBuilder others = new StringBuilder(first);
            for (String other : items) {
                others.append(other.equals(first) ? "" : other);
            }
            dueLists("list{" + others + "}", 1);
            dueFault("list{" + others + word + " ?", 3, 5 + others.length());
            dueFault("list{}list{" + others + word, 3, 11 + others.length());
        }
    }

    /** "pay n { n }" */
    private static void atLeastOneNumberOfAPay() {
        dueFault("list{pay;}", 1, 8);
        dueFault("list{pay", 1, 8);
        dueLists("list{pay 0;}", 1);
        dueLists("list{pay 100;}", 1);
        dueFault("list{pay 1;2;}", 1, 11);
    }

    /** "F: [ not ] ( '(' C ')' | WHAT ... )" */
    private static void oneNotAtMost() {
        dueLists("list{if not sex=1;}", 1);
        dueFault("list{if not not sex=1;}", 1, 12);
        dueLists("list{if not(not sex=1);}", 1);
        dueFault("list{if not;}", 1, 11);
        dueFault("list{if ();}", 1, 9);
        dueFault("list{if (not);}", 1, 12);
        dueFault("list{if sex not=1;}", 1, 12);
    }

    /** "(its first byte; the length, if more must come)": a text cut off at each of its bytes. */
    private static void moreMustCome() {
        String text = "list { if not (loft < 12 or year > 34) and sex = 0 or ring = 5; most 67;\n"
                + "until 89; pay 50 10 ; }";
        dueLists(text, 1);
        for (int cut = 0; cut < text.length(); cut++) {
            int word = cut;
            while (word > 0 && Character.isLetter(text.charAt(word - 1))) {
                word--;
            }
            // A word cut within is no token, unless it ends where it should.
            boolean within = word < cut && Character.isLetter(text.charAt(cut));
            dueFault(text.substring(0, cut), 1, within ? word : cut);
        }
        dueFault(text + text.substring(0, 5) + "   ", 1, text.length() + 8);
    }

    /** "The TAPE's first n bytes": as many tokens as it can have bytes. */
    private static void asManyTokensAsBytes() {
        dueFault("{".repeat(800), 1, 0);
        dueFault("0{".repeat(400), 1, 0);
        dueFault("list{if " + "(".repeat(6) + ")".repeat(786), 1, 14);
        dueFault("list{most 1;" + "}".repeat(788), 1, 13);
    }

    /** Eight lofts, 24 birds home in their order: loft n / 3, year 4 n + n / 23 * 7, sex n % 2. */
    private static BirdOffice allHome() {
        BirdOffice office = new BirdOffice();
        office.flight(0, 0, 0, 40000, 0);
        for (int bird = 0; bird < 24; bird++) {
            if (bird % 3 == 0) {
                office.loft(0, 1);
            }
            office.bird(bird / 3, 4 * bird + bird / 23 * 7, bird % 2);
        }
        office.clock(0, 0, 0, 40000, 40000);
        for (int bird = 0; bird < 24; bird++) {
            office.strike(0, 0, bird, 100 + bird, 0);
        }
        return office;
    }

    private static void dueBirds(BirdOffice office, String condition, int many, int first) {
        DUE.dueLists(office, "list{if " + condition + ";}", 1);
        DUE.due("in it by [" + condition + "]", office.result(0, 0, 0), many);
        DUE.due("the first by [" + condition + "]", office.row(0, 0), first);
    }

    /** "WHAT ( '<' | '>' | '=' ) n", at the least and the greatest of each, and beyond. */
    private static void relationsAtTheirEdges() {
        BirdOffice office = allHome();
        String[] whats = {"loft", "year", "sex", "ring"};
        int[] last = {7, 99, 1, 23};
        int[] least = {3, 1, 12, 1};
        int[] firstOfLast = {21, 23, 1, 23};
        int[] firstAbove = {3, 1, 1, 1};
        for (int i = 0; i < whats.length; i++) {
            String what = whats[i];
            dueBirds(office, what + "<0", 0, -1);
            dueBirds(office, what + "=0", least[i], 0);
            dueBirds(office, what + "<1", least[i], 0);
            dueBirds(office, what + ">0", 24 - least[i], firstAbove[i]);
            dueBirds(office, what + "=" + last[i], least[i], firstOfLast[i]);
            dueBirds(office, what + "<" + last[i], 24 - least[i], 0);
            dueBirds(office, what + ">" + (last[i] - 1), least[i], firstOfLast[i]);
            dueBirds(office, what + ">" + last[i], 0, -1);
            dueBirds(office, what + "=" + (last[i] + 1), 0, -1);
            dueBirds(office, what + "<" + (last[i] + 1), 24, 0);
        }
    }

    /** "a ( within 6 others" is too much, six are not: in each an or and an and wait for what is within. */
    private static void theDeepestCondition() {
        BirdOffice office = allHome();
        String open = "ring=0 or ring<20 and (";
        String deep = open.repeat(6) + "ring=3 or ring>0 and not ring>5" + ")".repeat(6);
        dueBirds(office, deep, 6, 0);
        dueBirds(office, "not(" + open.repeat(5) + "ring=3 or ring>0 and not ring>5" + ")".repeat(6), 18, 6);
        String shut = "not ring=0 and ring<20 or not (";
        dueBirds(office, shut.repeat(6) + "ring=3 and ring>0 or ring=21" + ")".repeat(6), 20, 1);
        StringBuilder less = new StringBuilder();
        for (int i = 0; i < 6; i++) {
            less.append("ring=99 or ring<").append(20 - i).append(" and not (");
        }
        // 0 .. 19 less (0 .. 18 less (0 .. 17 less ( ... 1))): 1, 15, 17 and 19.
        dueBirds(office, less + "ring=1" + ")".repeat(6), 4, 1);
    }

    /** "C: T { or T }; T: F { and F }", as long as the tape: the first, the last, one in the midst decide. */
    private static void theLongestConditions() {
        BirdOffice office = allHome();
        dueBirds(office, "sex=9 or ".repeat(87) + "ring=5", 1, 5);
        dueBirds(office, "ring=5" + " or sex=9".repeat(87), 1, 5);
        dueBirds(office, "sex<9and ".repeat(87) + "ring=5", 1, 5);
        dueBirds(office, "ring=5" + " and sex<9".repeat(78), 1, 5);
        dueBirds(office, "sex<9 and ".repeat(40) + "ring=5" + " and sex<9".repeat(38), 1, 5);
        dueBirds(office, "not sex<9or ".repeat(65) + "ring=5", 1, 5);
        dueBirds(office, "sex=9 or ".repeat(87) + "sex=9", 0, -1);
        DUE.dueLists(office, "list{}list{if " + "not sex=9and ".repeat(58) + "ring=5;}list{if ring=6;}", 3);
        DUE.dueResult(office, 0, 1, 0, 5, 1, 5);
        DUE.dueResult(office, 0, 2, 0, 6, 1, 6);
    }

    /** "FAULTS, the first along the text" */
    private static void theFirstAlongTheText() {
        String[] faulty = {"most 0;", "pay 60 41;", "until 1;until 1;", "if (((((((sex=1)))))));",
            "pay 0 0 0 0 0 0 0 0 0;", "?", "until 100000;"};
        int[] kinds = {3, 3, 3, 2, 2, 1, 1};
        int[] places = {5, 7, 8, 9, 20, 0, 6};
        for (int first = 0; first < faulty.length; first++) {
            for (String other : faulty) {
                dueFault("list{" + faulty[first] + other + "}", kinds[first], 5 + places[first]);
                dueFault("list{" + faulty[first] + "}" + SIX + "list{" + other + "}", kinds[first],
                        5 + places[first]);
            }
        }
    }

    /** "(of one place the least)": 1 ahead of 2 ahead of 3. */
    private static void ofOnePlaceTheLeast() {
        dueFault("list{pay 50 50 0 0 0 0 0 0 1;}", 2, 27);
        dueFault("list{pay 50 50 0 0 0 0 0 0 99999;}", 2, 27);
        dueFault("list{pay 50 50 0 0 0 0 0 0 100000;}", 1, 27);
        dueFault("list{pay 50 50 100000;}", 1, 15);
        dueFault("list{pay 1 pay 1;}", 1, 11);
        dueFault("list{most 1;until 1 most 0;}", 1, 20);
        dueFault("list{}".repeat(5) + "list{list{}}", 1, 35);
        dueFault("list{if ((((((sex=1(", 1, 19);
        dueFault("list{if ((((((sex(=1", 1, 17);
        dueFault("list{most 00000;}", 3, 10);
    }

    /** "a ( within 6 others" */
    private static void aRoundWithinSixOthers() {
        for (int deep = 1; deep <= 8; deep++) {
            String text = "list{if " + "(".repeat(deep) + "sex=1" + ")".repeat(deep) + ";}";
            if (deep <= 6) {
                dueLists(text, 1);
            } else {
                dueFault(text, 2, 14);
            }
        }
        dueLists("list{if (((((sex=1)or(sex=1)))))and((((((sex=1))))));}list{if ((((((sex=1))))));}", 2);
        dueFault("list{if (((((sex=1)or(sex=1)or((sex=1", 1, 37);
        dueFault("list{if (((((sex=1)or(sex=1)or(((sex=1", 2, 32);
        dueFault("list{if not(not(not(not(not(not(not(sex=1", 2, 35);
        dueFault("list{if " + "(".repeat(792), 2, 14);
        dueFault("list{if ((((((not(", 2, 17);
        dueFault("list{if sex=1 and((((((sex=1 or(", 2, 31);
    }

    /** "a ninth number of a pay" */
    private static void aNinthNumberOfAPay() {
        for (int many = 1; many <= 10; many++) {
            String text = "list{pay" + " 1".repeat(many) + ";}";
            if (many <= 8) {
                dueLists(text, 1);
            } else {
                dueFault(text, 2, 25);
            }
        }
        dueLists("list{pay 1 1 1 1 1 1 1 1;}list{pay 1 1 1 1 1 1 1 1;}", 2);
        dueFault("list{pay 1 1 1 1 1 1 1 1}", 1, 24);
        dueFault("list{pay" + " 0".repeat(396), 2, 25);
    }

    /** "a number of a pay by which they sum up to more than 100" */
    private static void moreThanAHundred() {
        dueLists("list{pay 100;}", 1);
        dueFault("list{pay 101;}", 3, 9);
        dueLists("list{pay 99 1 0;}", 1);
        dueFault("list{pay 99 1 1;}", 3, 14);
        dueFault("list{pay 99 2 0;}", 3, 12);
        dueLists("list{pay 12 12 12 12 13 13 13 13;}", 1);
        dueFault("list{pay 12 12 12 13 13 13 13 13;}", 3, 30);
        dueFault("list{pay 0 99999 99999;}", 3, 11);
        dueLists("list{pay 100;}list{pay 100;}", 2);
        dueFault("list{pay 1;}list{pay 100 1;}", 3, 25);
    }

    /** "a most of 0 (at the number)" */
    private static void aMostOfNothing() {
        dueLists("list{most 1;}", 1);
        dueFault("list{most 0;}", 3, 10);
        dueFault("list{most 000;}", 3, 10);
        dueFault("list{most\n 0", 3, 11);
        dueLists("list{most 10;until 0;pay 0;if ring=0;}", 1);
        dueFault("list{most 1;}list{most 0;}", 3, 23);
    }
}
