/** Promises 1 to 3: a new object, letters, and the SLOPE that they tell. */
public final class TextTest {
    private static final Check CHECK = new Check();

    private static void newObject() {
        PicnicOfSomebody x = new PicnicOfSomebody();
        for (int what = 0; what <= 7; what++) {
            CHECK.due("new: count(" + what + ")", x.count(what), 0);
        }
        for (int what = 11; what <= 16; what++) {
            CHECK.due("new: count(" + what + ")", x.count(what), 0);
        }
        for (int cell = 0; cell < 25; cell++) {
            CHECK.due("new: depth(" + cell + ")", x.depth(cell), 0);
        }
        CHECK.due("new: place()", x.place(), 0);
        CHECK.due("new: on()", x.on(), -3);
    }

    private static void letters() {
        PicnicOfSomebody x = new PicnicOfSomebody();
        CHECK.due("letter(-1)", x.letter(-1), -4);
        CHECK.due("letter(256)", x.letter(256), -6);
        CHECK.due("letter(least)", x.letter(Integer.MIN_VALUE), -4);
        CHECK.due("letter(0)", x.letter(0), 1);
        CHECK.due("letter(255)", x.letter(255), 2);
        for (int i = 3; i <= 96; i++) {
            CHECK.due("letter " + i, x.letter('p'), i);
        }
        CHECK.due("letter 97", x.letter('p'), -6);
        CHECK.due("letter(-1) when full", x.letter(-1), -4);
        CHECK.due("count(7)", x.count(7), 96);
        CHECK.due("count(14)", x.count(14), 3);
        CHECK.due("count(16)", x.count(16), 2);
        CHECK.due("slope() of these", x.slope(), -1000);
        CHECK.due("count(7) behind slope()", x.count(7), 0);
        CHECK.due("letter behind slope()", x.letter('p'), 1);
    }

    private static void fault(String text, int want) {
        PicnicOfSomebody x = new PicnicOfSomebody();
        CHECK.due("slope of \"" + text + "\"", Check.read(x, text), want);
        CHECK.due("people behind the FAULT of " + text, x.count(0), 0);
        CHECK.due("depth behind the FAULT of " + text, x.count(4), 0);
        CHECK.due("YEAR behind the FAULT of " + text, x.count(1), 0);
        CHECK.due("letters behind the FAULT of " + text, x.count(7), 0);
        for (int what = 11; what <= 16; what++) {
            CHECK.due("count(" + what + ") behind the FAULT of " + text, x.count(what), 0);
        }
    }

    private static void faultsOfForm() {
        fault("", -1000);
        fault("x", -1000);
        fault(";", -1000);
        fault("P", -1000);
        fault("p", -1001);
        fault("px0000;", -1001);
        fault("p00000;", -1001);
        fault("pg", -1002);
        fault("pga000;", -1002);
        fault("pg0/00;", -1003);
        fault("pg00:0;", -1004);
        fault("pg000;", -1005);
        fault("pg0000", -1006);
        fault("pg00000;", -1006);
        fault("pg0000;;", -1007);
        fault("pg0000;q", -1007);
        fault("h", -1001);
        fault("h000;", -1004);
        fault("h00000;", -1005);
        fault("b0;", -1002);
        fault("b000;", -1003);
        fault("a00;", -1003);
        fault("a0000;", -1004);
        fault("y1;", -1002);
        fault("y011;", -1003);
        fault("y01", -1003);
        fault("y60;y61;h9999;z", -1014);
        fault("pg0000;".repeat(13) + "pg000", -1096);
    }

    private static void faultsOfThings() {
        fault("pg0250;", -2000);
        fault("pg0990;", -2000);
        fault("h1299;h2500;", -2006);
        fault("b00;", -2000);
        fault("b00;pg0000;", -2000);
        fault("pg0000;b10;", -2007);
        fault("a000;", -2000);
        fault("pg0000;a100;", -2007);
        fault("pg0000;a025;", -2007);
        fault("y00;", -2000);
        fault("y61;", -2000);
        fault("y05;pg0009;h0101;y00;", -2017);
        fault("pg0000;".repeat(9), -2056);
        fault("y60;".repeat(16) + "y39;y01;", -2068);
        fault("h2500;b99;", -2000);
    }

    private static void wholeSlopes() {
        PicnicOfSomebody x = CHECK.told("pg1012;pf2103;pc3204;ps4056;po5237;pd6248;h2499;h0305;b19;a004;");
        int[][] people = {{0, 1, 4, 2}, {1, 2, 10, 9}, {2, 3, 20, 4}, {3, 4, 5, 6}, {4, 5, 23, 7}, {5, 6, 24, 8}};
        for (int i = 0; i < people.length; i++) {
            for (int what = 0; what < 4; what++) {
                CHECK.due("person(" + i + ", " + what + ")", x.person(i, what), people[i][what]);
            }
        }
        CHECK.due("depth(24)", x.depth(24), 99);
        CHECK.due("depth(3)", x.depth(3), 5);
        CHECK.due("one more", Check.read(x, "pg0000;"), 1);
        CHECK.due("seven now", x.count(0), 7);
        CHECK.due("no room for two more", Check.read(x, "pg0000;pg0000;"), -2007);
        CHECK.due("still seven", x.count(0), 7);
        CHECK.due("eight", Check.read(x, "pg0000;b70;a700;"), 3);
        CHECK.due("nobody has number 8", Check.read(x, "b80;"), -2000);
        CHECK.due("ninety-six letters", Check.read(x, "a024;".repeat(4) + "b00;".repeat(19)), 23);
        CHECK.due("he sits there", x.person(0, 2), 24);
    }

    /** YEARS go by where they stand: what is ahead of them has come, what is behind has not. */
    private static void yearsInATextGoByInTurn() {
        PicnicOfSomebody x = CHECK.told("pg0129;y01;b05;y01;h1205;");
        CHECK.due("he came nearer as long as he believed", x.person(0, 2), 2);
        CHECK.due("BELIEF", x.person(0, 3), 5);
        CHECK.due("HERE had been 0", x.depth(0), 0);
        CHECK.due("HERE", x.place(), 12);
        CHECK.due("YEAR", x.count(1), 2);
        CHECK.due("the last YEARS there are", Check.read(x, "y60;".repeat(16) + "y37;"), 17);
        CHECK.due("YEAR", x.count(1), 999);
        CHECK.due("none beyond", Check.read(x, "h0001;y01;"), -2006);
        CHECK.due("YEAR", x.count(1), 999);
    }

    public static void main(String[] args) {
        newObject();
        letters();
        faultsOfForm();
        faultsOfThings();
        wholeSlopes();
        yearsInATextGoByInTurn();
        CHECK.end();
    }
}
