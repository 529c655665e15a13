/** Promises 4 to 11 and 36 to 38: what is so, what changes it, YEARS, THE IMAGE, how many. */
public final class StateTest {
    private static final Check CHECK = new Check();

    private static void depths() {
        PicnicOfSomebody x = new PicnicOfSomebody();
        CHECK.due("depth(-1)", x.depth(-1), -1);
        CHECK.due("depth(25)", x.depth(25), -1);
        CHECK.due("digs(24, 99)", x.digs(24, 99), 0);
        CHECK.due("digs(24, 7)", x.digs(24, 7), 99);
        CHECK.due("depth(24)", x.depth(24), 7);
        CHECK.due("place()", x.place(), 24);
        CHECK.due("digs(3, 7)", x.digs(3, 7), 0);
        CHECK.due("of several the least", x.place(), 3);
        CHECK.due("digs(2, 6)", x.digs(2, 6), 0);
        CHECK.due("the deepest", x.place(), 3);
        CHECK.due("digs(-1, -1)", x.digs(-1, -1), -1);
        CHECK.due("digs(25, 0)", x.digs(25, 0), -1);
        CHECK.due("digs(0, -1)", x.digs(0, -1), -4);
        CHECK.due("digs(0, 100)", x.digs(0, 100), -6);
        CHECK.due("digs(2, 0)", x.digs(2, 0), 6);
        CHECK.due("all DEPTH", x.count(4), 14);
        x.digs(1, 8);
        CHECK.due("the second CELL", x.place(), 1);
        x.digs(0, 8);
        CHECK.due("the first CELL", x.place(), 0);
        CHECK.due("count(11)", x.count(11), 4);
    }

    /** Whom each has BESIDE him: 0, 1 and 2 STEPS count, 3 do not, and he himself does not. */
    private static void besideAndBelievers() {
        PicnicOfSomebody x = CHECK.told("pg0125;pg0124;pg0229;pg0239;");
        int[][] due = {{2, 1, 5}, {2, 2, 5}, {3, 2, 9}, {1, 1, 9}};
        for (int i = 0; i < due.length; i++) {
            for (int k = 0; k < 3; k++) {
                CHECK.due("person(" + i + ", " + (4 + k) + ")", x.person(i, 4 + k), due[i][k]);
            }
        }
        CHECK.due("person(-1, 0)", x.person(-1, 0), -1);
        CHECK.due("person(4, 9)", x.person(4, 9), -1);
        CHECK.due("person(0, -1)", x.person(0, -1), -2);
        CHECK.due("person(0, 7)", x.person(0, 7), -2);
        CHECK.due("across the edge is not beside", CHECK.told("pg0040;pg0050;").person(0, 4), 0);
        CHECK.due("two on the diagonal are", CHECK.told("pg0060;pg0120;").person(0, 4), 1);
    }

    private static void next(String text, int want) {
        CHECK.due("next BELIEF of the first of " + text, CHECK.told(text).person(0, 6), want);
    }

    private static void nextBeliefs() {
        next("pg0004;", 4);
        next("pg0004;pg0000;", 3);
        next("pg0000;pg0000;", 0);
        next("pg0004;pg0005;", 5);
        next("pg0009;pg0005;", 9);
        next("pg0004;pg0005;pg0004;", 4);
        next("pf2024;", 5);
        next("pf2034;", 4);
        next("pf0004;", 5);
        next("pf0014;", 4);
        next("pf0004;pg0000;", 4);
        next("pf0004;pg0005;", 6);
        next("pf0000;pg0000;", 0);
        next("pf0009;pg0005;", 9);
        next("h1201;pf3034;", 5);
        next("h1201;pf3004;", 4);
        next("pc0004;", 4);
        next("pc0009;pg0002;pg0101;pg0248;", 2);
        next("pc0001;pg0008;", 8);
        next("ps0004;", 3);
        next("ps0000;", 0);
        next("ps0004;pg0000;", 2);
        next("ps0004;pg0005;", 4);
        next("ps0009;pg0005;", 9);
        next("ps0001;pg0000;", 0);
        next("po0014;pg0000;", 4);
        next("po0014;", 4);
        next("po0004;pg0000;", 4);
        next("po0004;pg0005;", 6);
        next("po0014;pg0005;", 5);
        next("pd0004;", 5);
        next("pd0009;", 9);
        next("pd0009;pg0002;", 3);
        next("pd0001;pg0009;", 9);
    }

    private static void changes() {
        PicnicOfSomebody x = CHECK.told("pg3127;ps0000;");
        CHECK.due("believes(0, 0)", x.believes(0, 0), 7);
        CHECK.due("believes(0, 9)", x.believes(0, 9), 0);
        CHECK.due("person(0, 3)", x.person(0, 3), 9);
        CHECK.due("believes(2, -1)", x.believes(2, -1), -1);
        CHECK.due("believes(-1, 0)", x.believes(-1, 0), -1);
        CHECK.due("believes(0, -1)", x.believes(0, -1), -4);
        CHECK.due("believes(0, 10)", x.believes(0, 10), -6);
        CHECK.due("sits(0, 24)", x.sits(0, 24), 12);
        CHECK.due("sits(0, 0)", x.sits(0, 0), 24);
        CHECK.due("more than one in a CELL", x.person(0, 2), x.person(1, 2));
        CHECK.due("sits(2, 0)", x.sits(2, 0), -1);
        CHECK.due("sits(0, 25)", x.sits(0, 25), -1);
        CHECK.due("sits(0, -1)", x.sits(0, -1), -1);
        CHECK.due("turn(0, 5, 9)", x.turn(0, 5, 9), 3);
        CHECK.due("turn(0, 0, 0)", x.turn(0, 0, 0), 59);
        CHECK.due("turn(1, 4, 2)", x.turn(1, 4, 2), 30);
        CHECK.due("person(1, 0)", x.person(1, 0), 4);
        CHECK.due("person(1, 1)", x.person(1, 1), 2);
        CHECK.due("turn(2, 9, 99)", x.turn(2, 9, 99), -1);
        CHECK.due("turn(0, 6, -1)", x.turn(0, 6, -1), -2);
        CHECK.due("turn(0, -1, 10)", x.turn(0, -1, 10), -2);
        CHECK.due("turn(0, 0, -1)", x.turn(0, 0, -1), -4);
        CHECK.due("turn(0, 0, 10)", x.turn(0, 0, 10), -6);
        CHECK.due("person(0, 0)", x.person(0, 0), 0);
        CHECK.due("person(0, 1)", x.person(0, 1), 0);
    }

    /** One walks to HERE, by its row first, and digs from two STEPS on. */
    private static void yearsGoBy() {
        PicnicOfSomebody x = CHECK.told("h1210;h0302;pg0019;");
        int[][] due = {{10, 1, 6}, {11, 0, 11}, {12, 0, 12}, {13, 0, 12}};
        for (int k = 0; k < due.length; k++) {
            CHECK.due("years(1)", x.years(1), 1);
            CHECK.due("YEAR", x.count(1), k + 1);
            CHECK.due("HERE is deeper", x.depth(12), due[k][0]);
            CHECK.due("each other CELL less", x.depth(3), due[k][1]);
            CHECK.due("CELL", x.person(0, 2), due[k][2]);
        }
        CHECK.due("years(60)", x.years(60), 1);
        CHECK.due("YEAR", x.count(1), 64);
        CHECK.due("HERE, one deeper each YEAR", x.depth(12), 73);
        x.years(60);
        CHECK.due("99 at most", x.depth(12), 99);
        PicnicOfSomebody y = CHECK.told("h2405;pg0015;pg0235;");
        y.years(1);
        CHECK.due("from above", y.person(0, 2), 6);
        CHECK.due("in the row", y.person(1, 2), 24);
        PicnicOfSomebody up = CHECK.told("h0005;pg0245;pg0044;pg0045;");
        up.years(1);
        CHECK.due("from below", up.person(0, 2), 19);
        CHECK.due("he does not believe, but will", up.person(1, 2), 3);
        CHECK.due("back in the row", up.person(2, 2), 4);
    }

    /** DEPTH is by those who BELIEVED as the YEAR began, going by those who BELIEVE then. */
    private static void beganAndThen() {
        PicnicOfSomebody x = CHECK.told("ps0015;");
        CHECK.due("he doubts", x.years(1), 0);
        CHECK.due("but had dug", x.depth(0), 1);
        CHECK.due("and stays", x.person(0, 2), 1);
        PicnicOfSomebody y = CHECK.told("pd0014;");
        CHECK.due("he believes", y.years(1), 1);
        CHECK.due("but had not dug", y.depth(0), 0);
        CHECK.due("and comes", y.person(0, 2), 0);
        PicnicOfSomebody both = CHECK.told("pc0009;pc0000;");
        both.years(1);
        CHECK.due("all told as it began, the first", both.person(0, 3), 0);
        CHECK.due("all told as it began, the second", both.person(1, 3), 9);
    }

    private static void yearsRefused() {
        PicnicOfSomebody x = new PicnicOfSomebody();
        CHECK.due("years(0)", x.years(0), -4);
        CHECK.due("years(61)", x.years(61), -6);
        CHECK.due("years(greatest)", x.years(Integer.MAX_VALUE), -6);
        CHECK.due("years(least)", x.years(Integer.MIN_VALUE), -4);
        for (int i = 0; i < 16; i++) {
            CHECK.due("years(60)", x.years(60), 0);
        }
        CHECK.due("years(40)", x.years(40), -6);
        CHECK.due("years(39)", x.years(39), 0);
        CHECK.due("YEAR", x.count(1), 999);
        CHECK.due("years(1)", x.years(1), -6);
        CHECK.due("years(0)", x.years(0), -4);
        CHECK.due("YEAR", x.count(1), 999);
        CHECK.due("count(14)", x.count(14), 3);
        CHECK.due("count(16)", x.count(16), 4);
    }

    private static void images() {
        PicnicOfSomebody x = CHECK.told("pf3127;h0304;y02;");
        CHECK.due("on() without", x.on(), -3);
        CHECK.due("image()", x.image(), 2);
        int cell = x.person(0, 2);
        int all = x.count(4);
        Check.read(x, "pg0000;");
        x.turn(0, 2, 1);
        x.believes(0, 1);
        x.sits(0, 24);
        x.digs(20, 50);
        x.years(5);
        x.row(4);
        x.letter('p');
        x.depth(25);
        CHECK.due("on()", x.on(), 2);
        CHECK.due("YEAR", x.count(1), 2);
        CHECK.due("people", x.count(0), 1);
        CHECK.due("KIND", x.person(0, 0), 1);
        CHECK.due("FIGURE", x.person(0, 1), 3);
        CHECK.due("CELL", x.person(0, 2), cell);
        CHECK.due("BELIEF", x.person(0, 3), 9);
        CHECK.due("all DEPTH", x.count(4), all);
        CHECK.due("the ROW is no part of it", x.count(6), 1);
        CHECK.due("letters are none", x.count(7), 1);
        CHECK.due("REFUSALS are none", x.count(11), 1);
        x.years(60);
        CHECK.due("it stays", x.on(), 2);
        x.years(1);
        CHECK.due("a newer one", x.image(), 3);
        x.years(1);
        CHECK.due("on() from the newer", x.on(), 3);
        CHECK.due("count(13)", x.count(13), 1);
    }

    private static void counts() {
        PicnicOfSomebody x = CHECK.told("pg0015;pg0024;pg0039;h1140;h0740;y01;");
        x.row(1);
        x.row(2);
        x.letter('p');
        long[] due = {3, 1, 7, 19, 81, 7, 2, 1};
        for (int what = 0; what < due.length; what++) {
            CHECK.due("count(" + what + ")", x.count(what), due[what]);
        }
        x.depth(25);
        x.groups(2);
        x.on();
        x.years(0);
        x.years(61);
        x.stranger(-1);
        x.wind(8, 2, 0);
        x.mean(2);
        int[] refusals = {1, 2, 1, 2, 0, 2};
        for (int k = 0; k < refusals.length; k++) {
            CHECK.due("count(" + (11 + k) + ")", x.count(11 + k), refusals[k]);
        }
        for (int what : new int[] {-1, 8, 9, 10, 17, Integer.MIN_VALUE, Integer.MAX_VALUE}) {
            CHECK.due("count(" + what + ")", x.count(what), -9);
        }
        CHECK.due("another what is no REFUSAL", x.count(12), 2);
        x.digs(0, 5);
        x.digs(24, 6);
        CHECK.due("all DEPTH from the first CELL to the last", x.count(4), 92);
        PicnicOfSomebody eight = CHECK.told("pg0009;".repeat(8));
        CHECK.due("all BELIEF of eight", eight.count(3), 72);
        CHECK.due("BELIEVERS of eight", eight.count(2), 255);
    }

    public static void main(String[] args) {
        depths();
        besideAndBelievers();
        nextBeliefs();
        changes();
        yearsGoBy();
        beganAndThen();
        yearsRefused();
        images();
        counts();
        CHECK.end();
    }
}
