/**
 * The REFUSALS of each promise, in its order: the number just beyond what is allowed, those far beyond, nobody and eight,
 * and calls that two or three REFUSALS would fit. Each is counted once, and nothing else changes.
 */
public final class RefusalTest {
    private static final Check CHECK = new Check();
    private static final int LEAST = Integer.MIN_VALUE;
    private static final int GREATEST = Integer.MAX_VALUE;

    private static final int NOBODY = -1;
    private static final int OTHER = -2;
    private static final int STATE = -3;
    private static final int BELOW = -4;
    private static final int ROOM = -6;

    private static final Twins NONE = Twins.nobody(CHECK);
    private static final Twins THREE = Twins.three(CHECK);
    private static final Twins EIGHT = Twins.eight(CHECK);
    private static final Twins LATE = Twins.late(CHECK);
    private static final Twins FULL_TEXT = Twins.fullText(CHECK);
    private static final Twins FULL_ROW = Twins.fullRow(CHECK);

    private static int[] of(int... given) {
        return given;
    }

    /** One of the arguments is each of some values in turn, and every time the call is refused with the number. */
    private static void each(Twins twins, int number, String name, int[] given, int at, int... values) {
        for (int v : values) {
            int[] changed = given.clone();
            changed[at] = v;
            twins.refuses(number, name, changed);
        }
    }

    private static void noCell(String name, int[] given, int at) {
        each(THREE, NOBODY, name, given, at, LEAST, -1, 25, 26, 99, GREATEST);
    }

    /** Nobody is there at all; one below 0; one more than there are, three or eight; and far beyond. */
    private static void noPerson(String name, int[] given, int at) {
        each(NONE, NOBODY, name, given, at, LEAST, -1, 0, 1, GREATEST);
        each(THREE, NOBODY, name, given, at, LEAST, -1, 3, 4, 7, 8, GREATEST);
        each(EIGHT, NOBODY, name, given, at, LEAST, -1, 8, 9, GREATEST);
    }

    private static void otherWhat(String name, int[] given, int at, int choices) {
        each(THREE, OTHER, name, given, at, LEAST, -1, choices, choices + 1, GREATEST);
    }

    private static void belowAndAbove(String name, int[] given, int at, int least, int most) {
        each(THREE, BELOW, name, given, at, LEAST, least - 1);
        each(THREE, ROOM, name, given, at, most + 1, GREATEST);
    }

    /** YEARS in mind are bounded alike where nobody is, where eight are, and when YEAR is 999. */
    private static void yearsInMind(String name, int[] given, int at, int most) {
        belowAndAbove(name, given, at, 0, most);
        for (Twins twins : new Twins[] {NONE, EIGHT, LATE}) {
            each(twins, BELOW, name, given, at, -1);
            each(twins, ROOM, name, given, at, most + 1);
        }
    }

    private static void promise2Letter() {
        belowAndAbove("letter", of(0), 0, 0, 255);
        FULL_TEXT.refuses(ROOM, "letter", 0);
        FULL_TEXT.refuses(ROOM, "letter", 'p');
        FULL_TEXT.refuses(ROOM, "letter", 255);
        // No letter at all, and no room for one either: that it is below comes first, and -6 is counted once.
        FULL_TEXT.refuses(BELOW, "letter", -1);
        FULL_TEXT.refuses(ROOM, "letter", 256);
    }

    private static void promise4Depth() {
        noCell("depth", of(0), 0);
        each(NONE, NOBODY, "depth", of(0), 0, -1, 25);
    }

    private static void promise5Person() {
        noPerson("person", of(0, 0), 0);
        noPerson("person", of(0, 6), 0);
        otherWhat("person", of(0, 0), 1, 7);
        otherWhat("person", of(2, 0), 1, 7);
        noPerson("person", of(0, 7), 0);
        noPerson("person", of(0, -1), 0);
    }

    private static void promise7Digs() {
        noCell("digs", of(0, 5), 0);
        belowAndAbove("digs", of(0, 0), 1, 0, 99);
        belowAndAbove("digs", of(24, 0), 1, 0, 99);
        noCell("digs", of(0, -1), 0);
        noCell("digs", of(0, 100), 0);
    }

    private static void promise8Believes() {
        noPerson("believes", of(0, 5), 0);
        belowAndAbove("believes", of(0, 0), 1, 0, 9);
        belowAndAbove("believes", of(2, 0), 1, 0, 9);
        noPerson("believes", of(0, -1), 0);
        noPerson("believes", of(0, 10), 0);
    }

    private static void promise9Sits() {
        noPerson("sits", of(0, 5), 0);
        noCell("sits", of(0, 0), 1);
        noCell("sits", of(2, 0), 1);
        // Neither is there: that is one REFUSAL.
        noPerson("sits", of(0, -1), 0);
        noPerson("sits", of(0, 25), 0);
    }

    private static void promise10Turn() {
        noPerson("turn", of(0, 1, 5), 0);
        otherWhat("turn", of(0, 0, 5), 1, 6);
        belowAndAbove("turn", of(0, 1, 0), 2, 0, 9);
        belowAndAbove("turn", of(2, 5, 0), 2, 0, 9);
        noPerson("turn", of(0, 6, 5), 0);
        noPerson("turn", of(0, 1, -1), 0);
        noPerson("turn", of(0, -1, 10), 0);
        otherWhat("turn", of(0, 0, -1), 1, 6);
        otherWhat("turn", of(0, 0, 10), 1, 6);
    }

    private static void promise11Years() {
        belowAndAbove("years", of(0), 0, 1, 60);
        for (Twins twins : new Twins[] {NONE, EIGHT}) {
            each(twins, BELOW, "years", of(0), 0, 0, -1);
            each(twins, ROOM, "years", of(0), 0, 61);
        }
        each(LATE, ROOM, "years", of(0), 0, 1, 2, 60);
        // Too many at once and past the last YEAR too: -6 is counted once; none at all is below even there.
        each(LATE, ROOM, "years", of(0), 0, 61, GREATEST);
        each(LATE, BELOW, "years", of(0), 0, 0, -1, LEAST);
        Twins sixtyLeft = new Twins(CHECK, "YEAR 940", () -> {
            PicnicOfSomebody x = CHECK.told("pg3127;h1210;" + "y60;".repeat(15) + "y40;");
            x.image();
            return x;
        });
        sixtyLeft.refuses(ROOM, "years", 60);
    }

    private static void promise12Behind() {
        noPerson("behind", of(0, 1, 0), 0);
        belowAndAbove("behind", of(0, 0, 0), 1, 0, 60);
        belowAndAbove("behind", of(0, 0, 1), 1, 0, 60);
        each(LATE, ROOM, "behind", of(0, 0, 0), 1, 61);
        otherWhat("behind", of(0, 0, 0), 2, 2);
        otherWhat("behind", of(2, 60, 0), 2, 2);
        noPerson("behind", of(0, -1, 0), 0);
        noPerson("behind", of(0, 61, 0), 0);
        noPerson("behind", of(0, 61, 2), 0);
        noPerson("behind", of(0, 0, 2), 0);
        belowAndAbove("behind", of(0, 0, 2), 1, 0, 60);
        belowAndAbove("behind", of(0, 0, -1), 1, 0, 60);
    }

    private static void promise13Then() {
        yearsInMind("then", of(0, 0), 0, 60);
        yearsInMind("then", of(0, 1), 0, 60);
        otherWhat("then", of(0, 0), 1, 2);
        otherWhat("then", of(60, 0), 1, 2);
        yearsInMind("then", of(0, 2), 0, 60);
        yearsInMind("then", of(0, -1), 0, 60);
    }

    private static void promise14DepthThen() {
        noCell("depthThen", of(0, 1), 0);
        yearsInMind("depthThen", of(0, 0), 1, 60);
        yearsInMind("depthThen", of(24, 0), 1, 60);
        noCell("depthThen", of(0, -1), 0);
        noCell("depthThen", of(0, 61), 0);
    }

    private static void promise15First() {
        otherWhat("first", of(0), 0, 4);
        each(NONE, OTHER, "first", of(0), 0, -1, 4);
        each(LATE, OTHER, "first", of(0), 0, -1, 4);
    }

    private static void promises16To18MakesLeavesAsk() {
        yearsInMind("makes", of(0), 0, 20);
        yearsInMind("leaves", of(0), 0, 20);
        yearsInMind("ask", of(0), 0, 60);
    }

    private static void promise19Sit() {
        noPerson("sit", of(0, 1, 0), 0);
        belowAndAbove("sit", of(0, 0, 0), 1, 0, 20);
        belowAndAbove("sit", of(2, 0, 1), 1, 0, 20);
        otherWhat("sit", of(0, 0, 0), 2, 2);
        otherWhat("sit", of(2, 20, 0), 2, 2);
        noPerson("sit", of(0, -1, 0), 0);
        noPerson("sit", of(0, 21, 1), 0);
        noPerson("sit", of(0, 21, 2), 0);
        noPerson("sit", of(0, 1, 2), 0);
        belowAndAbove("sit", of(0, 0, 2), 1, 0, 20);
        belowAndAbove("sit", of(0, 0, -1), 1, 0, 20);
    }

    /** For nobody and for eight -9 is due, but a wrong number of YEARS is refused there as well. */
    private static void promises20To23() {
        yearsInMind("doubt", of(0), 0, 60);
        yearsInMind("stranger", of(0), 0, 60);
        yearsInMind("passed", of(0), 0, 60);
    }

    private static void promises24To26() {
        noPerson("heard", of(0), 0);
        for (String name : new String[] {"groups", "middle"}) {
            otherWhat(name, of(0), 0, 2);
            each(NONE, OTHER, name, of(0), 0, -1, 2);
            each(EIGHT, OTHER, name, of(0), 0, -1, 2);
        }
    }

    private static void promise27Wind() {
        yearsInMind("wind", of(0, 2, 0), 0, 7);
        yearsInMind("wind", of(0, 20, 1), 0, 7);
        belowAndAbove("wind", of(0, 0, 0), 1, 2, 20);
        belowAndAbove("wind", of(7, 0, 1), 1, 2, 20);
        each(THREE, BELOW, "wind", of(0, 0, 0), 1, 1, 0, -1);
        otherWhat("wind", of(0, 2, 0), 2, 2);
        otherWhat("wind", of(7, 20, 0), 2, 2);
        // One number below and the other above: that one is below comes first, whichever it is.
        THREE.refuses(BELOW, "wind", -1, 21, 0);
        THREE.refuses(BELOW, "wind", 8, 1, 0);
        THREE.refuses(BELOW, "wind", -1, 1, 2);
        THREE.refuses(ROOM, "wind", 8, 21, 2);
        yearsInMind("wind", of(0, 2, 2), 0, 7);
        belowAndAbove("wind", of(0, 0, -1), 1, 2, 20);
    }

    private static void promise28Mean() {
        otherWhat("mean", of(0), 0, 2);
        each(NONE, OTHER, "mean", of(0), 0, -1, 2);
    }

    private static void promise29Two() {
        noPerson("two", of(0, 1, 1), 0);
        noPerson("two", of(0, 0, 1), 1);
        for (int i = 0; i < 3; i++) {
            THREE.refuses(NOBODY, "two", i, i, 1);
        }
        EIGHT.refuses(NOBODY, "two", 7, 7, 60);
        // Neither is there, or one is told twice who is not: that is one REFUSAL.
        THREE.refuses(NOBODY, "two", 3, -1, 1);
        THREE.refuses(NOBODY, "two", 3, 3, 1);
        belowAndAbove("two", of(0, 1, 0), 2, 0, 60);
        each(EIGHT, ROOM, "two", of(7, 6, 0), 2, 61);
        each(LATE, ROOM, "two", of(0, 1, 0), 2, 61);
        THREE.refuses(NOBODY, "two", 3, 0, -1);
        THREE.refuses(NOBODY, "two", 0, 3, 61);
        THREE.refuses(NOBODY, "two", 1, 1, -1);
        THREE.refuses(NOBODY, "two", 1, 1, 61);
    }

    private static void promise30WhatIs() {
        noPerson("whatIs", of(0, 0), 0);
        otherWhat("whatIs", of(0, 0), 1, 2);
        each(FULL_ROW, OTHER, "whatIs", of(0, 0), 1, -1, 2);
        noPerson("whatIs", of(0, 2), 0);
        noPerson("whatIs", of(0, -1), 0);
    }

    private static void promise32Row() {
        belowAndAbove("row", of(0), 0, 0, 99);
        FULL_ROW.refuses(ROOM, "row", 0);
        FULL_ROW.refuses(ROOM, "row", 12);
        FULL_ROW.refuses(ROOM, "row", 99);
        // No such number, and no room for one either.
        FULL_ROW.refuses(BELOW, "row", -1);
        FULL_ROW.refuses(ROOM, "row", 100);
    }

    private static void promise35Lots() {
        belowAndAbove("lots", of(0, 7, 0), 0, 1, 20);
        belowAndAbove("lots", of(0, 7, 1), 0, 1, 20);
        each(NONE, BELOW, "lots", of(0, 7, 0), 0, 0, -1);
        each(NONE, ROOM, "lots", of(0, 7, 0), 0, 21);
        otherWhat("lots", of(1, 7, 0), 2, 2);
        otherWhat("lots", of(20, 7, 0), 2, 2);
        belowAndAbove("lots", of(0, 7, 2), 0, 1, 20);
        belowAndAbove("lots", of(0, 7, -1), 0, 1, 20);
    }

    private static void promise37On() {
        NONE.refuses(STATE, "on");
        LATE.refuses(STATE, "on");
        FULL_ROW.refuses(STATE, "on");
    }

    /** Another what of count() is no REFUSAL: -9, and nothing is counted. */
    private static void promise38Count() {
        for (int what : of(LEAST, -1, 8, 9, 10, 17, 18, GREATEST)) {
            NONE.keeps(-9, "count", what);
            THREE.keeps(-9, "count", what);
        }
        NONE.keeps(0, "count", 15);
    }

    /** A FAULT is no REFUSAL: letters are no more, and nothing else changes, not even by what stood ahead of the FAULT. */
    private static void promise3SlopeWithFault() {
        String[] faults = {"", "b05;h0399;p", "b05;a024;y05;h0399;pg0250;", "pg0000;b39;b49;", "y60;y00;", "x"};
        for (String text : faults) {
            PicnicOfSomebody one = CHECK.told("pg3127;ps0000;h1210;");
            PicnicOfSomebody other = CHECK.told("pg3127;ps0000;h1210;");
            CHECK.holds("the text \"" + text + "\" has a FAULT", Check.read(one, text) <= -1000);
            for (int what = 11; what <= 16; what++) {
                CHECK.answers(0, one, "count", what);
            }
            Twins.alike(CHECK, "slope() of \"" + text + "\"", one, other);
        }
    }

    /** Each of the six numbers is counted by itself, as often as it was answered. */
    private static void countsOfRefusals() {
        PicnicOfSomebody x = CHECK.told("pg3127;");
        for (int k = 0; k < 100; k++) {
            CHECK.answers(k, x, "count", 14);
            CHECK.answers(-4, x, "letter", -1);
            CHECK.answers(1000000006L, x, "stranger", 61);
        }
        int[] due = {0, 0, 0, 100, 0, 100};
        for (int k = 0; k < due.length; k++) {
            CHECK.answers(due[k], x, "count", 11 + k);
        }
        CHECK.answers(-3, x, "on");
        CHECK.answers(1, x, "count", 13);
    }

    public static void main(String[] args) {
        promise2Letter();
        promise3SlopeWithFault();
        promise4Depth();
        promise5Person();
        promise7Digs();
        promise8Believes();
        promise9Sits();
        promise10Turn();
        promise11Years();
        promise12Behind();
        promise13Then();
        promise14DepthThen();
        promise15First();
        promises16To18MakesLeavesAsk();
        promise19Sit();
        promises20To23();
        promises24To26();
        promise27Wind();
        promise28Mean();
        promise29Two();
        promise30WhatIs();
        promise32Row();
        promise35Lots();
        promise37On();
        promise38Count();
        countsOfRefusals();
        CHECK.end();
    }
}
