/** Promises 2, 3, 4: the tape, the lists told by a text, their faults. */
public final class ListsTest {
    private static final Due DUE = new Due();

    public static void main(String[] args) {
        feeding();
        refusing();
        tokens();
        grammar();
        tooMuch();
        wrongItems();
        firstFault();
        whatAFaultLeaves();
        conditions();
        longTexts();
        limits();
        DUE.end();
    }

    private static void feeding() {
        BirdOffice office = new BirdOffice();
        for (int i = 1; i <= 40; i++) {
            DUE.due("feed " + i, office.feed(0x20202020, 0x0a0a0a0a, 0x20202020, 0x20202020,
                    0x20202020), 20 * i);
        }
        DUE.due("feed beyond 800", office.feed(0, 0, 0, 0, 0), -1);
        DUE.due("feed beyond 800 again", office.feed(0, 0, 0, 0, 0), -1);
        DUE.due("lists(801)", office.lists(801), -2);
        DUE.due("lists(800)", office.lists(800), -1);
        DUE.due("800 blanks: more must come", office.fault(0), 1);
        DUE.due("at the length", office.fault(1), 800);
        DUE.due("feed on an empty tape", office.feed(0, 0, 0, 0, 0), 20);
        office.lists(0);
        // "list" "{}" and two blanks: the highest byte comes first
        DUE.due("feed", office.feed(0x6c697374, 0x7b7d2020, 0x80ff0000, -1, -1), 20);
        DUE.due("lists(8)", office.lists(8), 1);
        office.feed(0x6c697374, 0x7b7d2020, 0x80ff0000, -1, -1);
        DUE.due("lists(9)", office.lists(9), -1);
        DUE.due("byte 128 is no token", office.fault(1), 8);
        office.feed(0x6c697374, 0x7b7d2020, 0xff200000, -1, -1);
        DUE.due("lists(10)", office.lists(10), -1);
        DUE.due("byte 255 is no token", office.fault(1), 8);
    }

    private static void refusing() {
        BirdOffice office = new BirdOffice();
        DUE.dueFault(office, "list", 1, 4);
        DUE.due("size", Due.feedText(office, "list{}list{}"), 20);
        DUE.due("lists(-1)", office.lists(-1), -2);
        DUE.due("lists(21)", office.lists(21), -2);
        DUE.due("lists(MIN)", office.lists(Integer.MIN_VALUE), -2);
        DUE.due("lists(MAX)", office.lists(Integer.MAX_VALUE), -2);
        DUE.due("-2 leaves the fault", office.fault(0), 1);
        DUE.due("-2 leaves the place", office.fault(1), 4);
        office.loft(0, 0);
        office.bird(0, 0, 0);
        office.flight(9, 9, 0, 100, 0);
        office.stake(0, 0, 0, 1);
        DUE.due("lists with a stake", office.lists(12), -2);
        DUE.due("lists with a stake", office.lists(0), -2);
        DUE.due("-2 leaves the fault", office.fault(0), 1);
        office.stake(0, 0, 0, 0);
        DUE.due("lists: the tape stayed", office.lists(12), 2);
        DUE.due("no fault", office.fault(0), 0);
        DUE.due("no place", office.fault(1), -1);
        DUE.due("the tape is empty", office.lists(1), -2);
        DUE.due("fault(2)", office.fault(2), -1);
        DUE.due("fault(-1)", office.fault(-1), -1);
    }

    private static void tokens() {
        BirdOffice office = new BirdOffice();
        DUE.dueLists(office, "\n list \n{\n}\n ", 1);
        DUE.dueLists(office, "list{most 1;}", 1);
        DUE.dueLists(office, "list{most1;until2;pay3 4;}", 1);
        DUE.dueLists(office, "list{if loft<1or year>2and sex=1;}", 1);
        DUE.dueLists(office, "list{until 99999;most 000000000000000000099999;}", 1);
        DUE.dueFault(office, "list{until 100000;}", 1, 11);
        DUE.dueFault(office, "list{until 4294967296;}", 1, 11);
        DUE.dueFault(office, "list{until 99999999999999999999;}", 1, 11);
        DUE.dueFault(office, "list\t{}", 1, 4);
        DUE.dueFault(office, "list\r{}", 1, 4);
        DUE.dueFault(office, "List{}", 1, 0);
        DUE.dueFault(office, "lis t{}", 1, 0);
        DUE.dueFault(office, "listlist{}", 1, 0);
        DUE.dueFault(office, "listz{}", 1, 0);
        DUE.dueFault(office, "lista{}", 1, 0);
        DUE.dueFault(office, "list{most 1`;}", 1, 11);
        DUE.dueFault(office, "list{most 1/;}", 1, 11);
        DUE.dueFault(office, "list{most 1:;}", 1, 11);
        DUE.dueFault(office, "list{pay 9 9090909090;}", 1, 11);
        DUE.dueFault(office, "list{ mosta 1;}", 1, 6);
        DUE.dueFault(office, "list{most -1;}", 1, 10);
        DUE.dueFault(office, "list{if loft<=1;}", 1, 13);
        DUE.dueFault(office, "list{if loft 1;}", 1, 13);
        DUE.dueFault(office, "[list{}", 1, 0);
    }

    private static void grammar() {
        BirdOffice office = new BirdOffice();
        DUE.dueFault(office, "", 1, 0);
        DUE.dueFault(office, "  ", 1, 2);
        DUE.dueFault(office, "{}", 1, 0);
        DUE.dueFault(office, "list{}}", 1, 6);
        DUE.dueFault(office, "list{};", 1, 6);
        DUE.dueFault(office, "list list{}", 1, 5);
        DUE.dueFault(office, "list{list{}}", 1, 5);
        DUE.dueFault(office, "list{;}", 1, 5);
        DUE.dueFault(office, "list{} most", 1, 7);
        DUE.dueFault(office, "list{most;}", 1, 9);
        DUE.dueFault(office, "list{most 1}", 1, 11);
        DUE.dueFault(office, "list{most 1 2;}", 1, 12);
        DUE.dueFault(office, "list{until;}", 1, 10);
        DUE.dueFault(office, "list{until 5", 1, 12);
        DUE.dueFault(office, "list{pay ;}", 1, 9);
        DUE.dueFault(office, "list{pay 5,5;}", 1, 10);
        DUE.dueFault(office, "list{pay 5 ", 1, 11);
        DUE.dueFault(office, "list{if;}", 1, 7);
        DUE.dueFault(office, "list{if 1=loft;}", 1, 8);
        DUE.dueFault(office, "list{if loft=year;}", 1, 13);
        DUE.dueFault(office, "list{if loft=1 year=1;}", 1, 15);
        DUE.dueFault(office, "list{if loft=1 or;}", 1, 17);
        DUE.dueFault(office, "list{if loft=1 and or loft=2;}", 1, 19);
        DUE.dueFault(office, "list{if not not loft=1;}", 1, 12);
        DUE.dueFault(office, "list{if ();}", 1, 9);
        DUE.dueFault(office, "list{if (loft=1;}", 1, 15);
        DUE.dueFault(office, "list{if loft=1);}", 1, 14);
        DUE.dueFault(office, "list{if (loft)=1;}", 1, 13);
        DUE.dueFault(office, "list{if (loft=1", 1, 15);
        DUE.dueFault(office, "list{if ", 1, 8);
        DUE.dueLists(office, "list{if not(not(loft=1)and not sex=0)or(ring>5);}list{}", 2);
    }

    private static void tooMuch() {
        BirdOffice office = new BirdOffice();
        String six = "list{}list{}list{}list{}list{}list{}";
        DUE.dueLists(office, six, 6);
        DUE.dueFault(office, six + " list", 2, 37);
        DUE.dueFault(office, six + " lists", 1, 37);
        DUE.dueFault(office, six + "}", 1, 36);
        DUE.dueFault(office, six + "list{most 0;}", 2, 36);
        DUE.dueLists(office, "list{if ((((((loft=1))))))and((((((loft=1))))));}", 1);
        DUE.dueFault(office, "list{if (((((((loft=1)))))));}", 2, 14);
        DUE.dueFault(office, "list{if loft=1 or not(not(not(not(not(not(not(", 2, 45);
        DUE.dueLists(office, "list{pay 1 2 3 4 5 6 7 8;}", 1);
        DUE.dueFault(office, "list{pay 1 2 3 4 5 6 7 8 9;}", 2, 25);
        DUE.dueFault(office, "list{pay 1 2 3 4 5 6 7 8 99;}", 2, 25);
        DUE.dueFault(office, "list{pay 1 2 3 4 5 6 7 8 100000;}", 1, 25);
        DUE.dueFault(office, "list{pay 1 2 3 4 5 6 7 99 9;}", 3, 23);
    }

    private static void wrongItems() {
        BirdOffice office = new BirdOffice();
        DUE.dueFault(office, "list{if sex=1; if", 3, 15);
        DUE.dueFault(office, "list{most 1; most 0;}", 3, 13);
        DUE.dueFault(office, "list{until 0;until 0;}", 3, 13);
        DUE.dueFault(office, "list{pay 0;pay 0;}", 3, 11);
        DUE.dueFault(office, "list{pay 0;most 1;if sex=0;until 9;if", 3, 35);
        DUE.dueLists(office, "list{pay 0;most 1;if sex=0;until 9;}list{until 9;if sex=0;most 1;pay 0;}", 2);
        DUE.dueLists(office, "list{pay 100 0 0;}", 1);
        DUE.dueLists(office, "list{pay 50 50;}", 1);
        DUE.dueFault(office, "list{pay 101;}", 3, 9);
        DUE.dueFault(office, "list{pay 99999;}", 3, 9);
        DUE.dueFault(office, "list{pay 50 0 51 60;}", 3, 14);
        DUE.dueFault(office, "list{most 0;}", 3, 10);
        DUE.dueFault(office, "list{most 00;}", 3, 10);
        DUE.dueLists(office, "list{until 0;}", 1);
    }

    private static void firstFault() {
        BirdOffice office = new BirdOffice();
        DUE.dueFault(office, "list{most 0 ?", 3, 10);
        DUE.dueFault(office, "list{? most 0", 1, 5);
        DUE.dueFault(office, "list{pay 60 60 !", 3, 12);
        DUE.dueFault(office, "list{most 1;most", 3, 12);
    }

    private static void whatAFaultLeaves() {
        BirdOffice office = new BirdOffice();
        office.loft(3, 4);
        office.bird(0, 0, 0);
        office.flight(0, 0, 0, 100, 0);
        DUE.dueLists(office, "list{}list{}", 2);
        office.close(0, 1, 0);
        DUE.dueFault(office, "list{until 1;}list{}list{}list{", 1, 31);
        DUE.due("a fault leaves the lists", office.count(3), 2);
        DUE.due("a fault leaves closed prizes", office.count(5), 1);
        DUE.due("still closed", office.stake(0, 1, 0, 5), false);
        office.clock(0, 0, 0, 100, 100);
        office.strike(0, 0, 0, 50, 0);
        DUE.due("the old until", office.result(0, 0, 0), 1);
        DUE.due("no third list", office.result(0, 2, 0), -1);
        DUE.dueLists(office, "list{until 1;}list{}", 2);
        DUE.due("new lists open the prizes", office.count(5), 0);
        DUE.due("open", office.stake(0, 1, 0, 5), true);
        DUE.due("the new until", office.result(0, 0, 0), 0);
    }

    /** Birds 0 to 7: lofts 0 and 1, years 10 to 17, the sexes by turns of two. */
    private static BirdOffice eightHome() {
        BirdOffice office = new BirdOffice();
        office.loft(0, 10);
        office.loft(10, 0);
        office.flight(0, 0, 0, 100, 0);
        office.clock(0, 0, 0, 100, 100);
        for (int bird = 0; bird < 8; bird++) {
            office.bird(bird % 2, 10 + bird, bird / 2 % 2);
            office.strike(0, 0, bird, 10 + bird, 0);
        }
        return office;
    }

    private static void dueBirds(String condition, int... birds) {
        BirdOffice office = eightHome();
        DUE.dueLists(office, "list{if " + condition + ";}", 1);
        DUE.due("how many by " + condition, office.result(0, 0, 0), birds.length);
        for (int i = 0; i < birds.length; i++) {
            DUE.due(condition + ": row " + i, office.row(i, 0), birds[i]);
        }
    }

    private static void conditions() {
        dueBirds("loft=1", 1, 3, 5, 7);
        dueBirds("loft<1", 0, 2, 4, 6);
        dueBirds("loft>0", 1, 3, 5, 7);
        dueBirds("year<12", 0, 1);
        dueBirds("year>15", 6, 7);
        dueBirds("year=13", 3);
        dueBirds("sex=1", 2, 3, 6, 7);
        dueBirds("sex=2");
        dueBirds("ring>5", 6, 7);
        dueBirds("ring<00002", 0, 1);
        dueBirds("ring=4", 4);
        dueBirds("not ring=4", 0, 1, 2, 3, 5, 6, 7);
        dueBirds("ring=0 or ring=1 and sex=1", 0);
        dueBirds("ring=1 and sex=1 or ring=0", 0);
        dueBirds("(ring=0 or ring=1) and sex=0", 0, 1);
        dueBirds("(ring=0 or ring=2) and sex=1", 2);
        dueBirds("not sex=0 and loft=0", 2, 6);
        dueBirds("not (sex=0 and loft=0)", 1, 2, 3, 5, 6, 7);
        dueBirds("not (sex=0 or loft=0)", 3, 7);
        dueBirds("ring=7 or ring=0 or ring=3", 0, 3, 7);
        dueBirds("ring>0 and ring<7 and not ring=3", 1, 2, 4, 5, 6);
        dueBirds("ring=9 or (ring=9 or ring=1 and (ring=9 or ring<9 and (ring=9 or ring<9 and "
                + "(ring=9 or ring<9 and (ring=9 or ring<9 and (ring=9 or ring=1))))))", 1);
    }

    /** Texts as long as the tape: of as many tokens, and of as many parts of a condition. */
    private static void longTexts() {
        BirdOffice office = eightHome();
        DUE.dueFault(office, "{".repeat(800), 1, 0);
        DUE.dueFault(office, "list{" + ";".repeat(795), 1, 5);
        DUE.dueLists(office, "list{}" + " ".repeat(794), 1);
        DUE.dueLists(office, "list{if " + "not sex=0or ".repeat(65) + "ring=4;}" + "\n".repeat(4), 1);
        DUE.due("a long condition", office.result(0, 0, 0), 5);
        DUE.dueLists(office, "list{if " + "sex=9or ".repeat(97) + "ring=4;}" + "\n".repeat(4), 1);
        DUE.dueResult(office, 0, 0, 0, 4, 1, 4);
        DUE.dueLists(office, "list{until 12;if not(" + "sex=9or ".repeat(89) + "ring=4);" + "pay 9;}" + "list{if ring=5;}", 2);
        DUE.dueResult(office, 0, 0, 0, 0, 1, 0, 1, 2, 1, 2, 3, 2);
        DUE.dueResult(office, 0, 1, 0, 5, 1, 5);
    }

    private static void limits() {
        BirdOffice office = eightHome();
        DUE.dueLists(office, "list{most 1;}list{most 3;until 14;}list{until 13;most 9;}", 3);
        DUE.dueResult(office, 0, 0, 0, 0, 1, 0, 1, 2, 1);
        DUE.dueResult(office, 0, 1, 0, 0, 1, 0, 1, 2, 1, 2, 3, 2, 3, 4, 3, 4, 5, 4);
        DUE.dueResult(office, 0, 2, 0, 0, 1, 0, 1, 2, 1, 2, 3, 2, 3, 4, 3);
    }
}
