import java.math.BigInteger;
import java.util.Arrays;

/** What the words of the document bound, each at its least and its greatest, and where more or fewer would be too many. */
public final class TermTest {
    private static final Check CHECK = new Check();

    /** He who stands in CELL 24 goes 8 STEPS to CELL 0, rows first; and back. */
    private static void cellsAndSteps() {
        PicnicOfSomebody up = CHECK.told("h0009;pg0249;");
        int[] wayUp = {24, 19, 14, 9, 4, 3, 2, 1, 0, 0};
        PicnicOfSomebody down = CHECK.told("h2409;pg0009;");
        int[] wayDown = {0, 5, 10, 15, 20, 21, 22, 23, 24, 24};
        PicnicOfSomebody left = CHECK.told("h2009;pg0049;");
        int[] wayLeft = {4, 9, 14, 19, 24, 23, 22, 21, 20, 20};
        for (int n = 0; n < wayUp.length; n++) {
            CHECK.answers(wayUp[n], up, "behind", 0, n, 1);
            CHECK.answers(wayDown[n], down, "behind", 0, n, 1);
            CHECK.answers(wayLeft[n], left, "behind", 0, n, 1);
        }
        for (int cell = 0; cell < 25; cell++) {
            PicnicOfSomebody x = CHECK.told("pg0009;");
            CHECK.answers(0, x, "sits", 0, cell);
            CHECK.answers(cell, x, "middle", 0);
            CHECK.answers(0, x, "middle", 1);
            CHECK.answers(0, x, "digs", cell, 1);
            CHECK.answers(cell, x, "place");
        }
    }

    /** FIGURE STEPS or less: 8 STEPS lie between the corners, 5 between CELL 4 and CELL 5, which no edge joins. */
    private static void stepsOfAFriend() {
        String[] near = {"pf8244;", "pf9244;", "pf0004;", "pf1014;", "pf1054;", "h0401;pf5054;", "h2401;pf8004;", "h2001;pf8044;"};
        String[] far = {"pf7244;", "pf0244;", "pf0014;", "pf0054;", "h0401;pf4054;", "h2401;pf7004;", "h2001;pf7044;"};
        for (String text : near) {
            CHECK.answers(5, CHECK.told(text), "person", 0, 6);
        }
        for (String text : far) {
            CHECK.answers(4, CHECK.told(text), "person", 0, 6);
        }
    }

    private static void leastAndGreatestDepth() {
        PicnicOfSomebody x = new PicnicOfSomebody();
        for (int cell = 0; cell < 25; cell++) {
            CHECK.answers(0, x, "depth", cell);
            CHECK.answers(0, x, "digs", cell, 99);
            CHECK.answers(99, x, "depth", cell);
        }
        CHECK.answers(2475, x, "count", 4);
        CHECK.answers(0, x, "place");
        CHECK.answers(0, x, "years", 1);
        CHECK.answers(99, x, "depth", 0);
        CHECK.answers(98, x, "depth", 1);
        CHECK.answers(98, x, "depth", 24);
        CHECK.answers(99 + 24 * 98, x, "count", 4);
        CHECK.answers(98, x, "digs", 24, 0);
        CHECK.answers(0, x, "depth", 24);
    }

    /** 99 at most, by however many BELIEVERS; 0 at least. */
    private static void deeperAndLessDeep() {
        int[][] hereBefore = {{0, 8}, {1, 9}, {90, 98}, {91, 99}, {92, 99}, {98, 99}, {99, 99}};
        for (int[] was : hereBefore) {
            PicnicOfSomebody x = CHECK.told("pg0009;".repeat(8));
            x.digs(0, was[0]);
            CHECK.answers(was[1], x, "depthThen", 0, 1);
            CHECK.answers(8, x, "years", 1);
            CHECK.answers(was[1], x, "depth", 0);
        }
        PicnicOfSomebody one = CHECK.told("pg0009;h0098;");
        CHECK.answers(99, one, "depthThen", 0, 1);
        CHECK.answers(99, one, "depthThen", 0, 2);
        PicnicOfSomebody nobody = CHECK.told("h0099;h1001;h1102;h1200;h2499;");
        int[][] less = {{0, 99, 99, 99}, {10, 1, 0, 0}, {11, 2, 1, 0}, {12, 0, 0, 0}, {24, 99, 98, 97}};
        for (int[] row : less) {
            for (int n = 0; n <= 2; n++) {
                CHECK.answers(row[n + 1], nobody, "depthThen", row[0], n);
            }
        }
    }

    /** BESIDE HERE are those 2 STEPS or less from it, he who sits in it too; 3 STEPS are too far. */
    private static void whoDigs() {
        String[] near = {"12", "11", "13", "07", "17", "02", "22", "10", "14", "06", "08", "16", "18"};
        String[] far = {"00", "01", "03", "04", "05", "09", "15", "19", "20", "21", "23", "24"};
        for (String cell : near) {
            CHECK.answers(6, CHECK.told("h1205;pg0" + cell + "5;"), "depthThen", 12, 1);
            CHECK.answers(5, CHECK.told("h1205;pg0" + cell + "4;"), "depthThen", 12, 1);
        }
        for (String cell : far) {
            CHECK.answers(5, CHECK.told("h1205;pg0" + cell + "9;"), "depthThen", 12, 1);
        }
    }

    private static void hereIsTheLeastOfSeveral() {
        CHECK.answers(0, new PicnicOfSomebody(), "place");
        CHECK.answers(24, CHECK.told("h2401;"), "place");
        CHECK.answers(23, CHECK.told("h2401;h2301;"), "place");
        CHECK.answers(24, CHECK.told("h2402;h2301;h0001;"), "place");
        CHECK.answers(0, CHECK.told("h2499;h0099;h1299;"), "place");
        CHECK.answers(24, CHECK.told("h2499;h0098;h1298;"), "place");
        // Both are as deep now; a YEAR makes the one that is not HERE less deep.
        PicnicOfSomebody x = CHECK.told("h0307;h2007;");
        CHECK.answers(3, x, "then", 60, 0);
        CHECK.answers(0, x, "years", 1);
        CHECK.answers(7, x, "depth", 3);
        CHECK.answers(6, x, "depth", 20);
        CHECK.answers(7, x, "digs", 3, 6);
        CHECK.answers(3, x, "place");
    }

    private static void eightPeopleAtMost() {
        PicnicOfSomebody x = new PicnicOfSomebody();
        for (int i = 0; i < 8; i++) {
            CHECK.answers(i, x, "count", 0);
            CHECK.due("one more", Check.read(x, "pd9249;"), 1);
        }
        CHECK.due("a ninth", Check.read(x, "pd9249;"), -2000);
        CHECK.due("a ninth behind another STATEMENT", Check.read(x, "b00;pd9249;"), -2004);
        CHECK.answers(8, x, "count", 0);
        CHECK.answers(72, x, "count", 3);
        CHECK.answers(255, x, "count", 2);
        for (int i = 0; i < 8; i++) {
            int[] due = {5, 9, 24, 9, 7, 7, 9};
            for (int what = 0; what < due.length; what++) {
                CHECK.answers(due[what], x, "person", i, what);
            }
        }
        CHECK.due("eight at once", Check.read(new PicnicOfSomebody(), "pg0000;".repeat(8)), 8);
        CHECK.due("nine at once", Check.read(new PicnicOfSomebody(), "pg0000;".repeat(9)), -2056);
    }

    /** BELIEVERS are those with 5 or more. */
    private static void believers() {
        PicnicOfSomebody x = CHECK.told("pg0000;pg0004;pg0005;pg0006;pg0009;");
        CHECK.answers(28, x, "count", 2);
        CHECK.answers(3, x, "then", 0, 1);
        CHECK.answers(24, x, "count", 3);
        CHECK.answers(4, x, "person", 0, 4);
        CHECK.answers(3, x, "person", 0, 5);
        CHECK.answers(2, x, "person", 4, 5);
        CHECK.answers(4, x, "believes", 1, 5);
        CHECK.answers(30, x, "count", 2);
        CHECK.answers(5, x, "believes", 2, 4);
        CHECK.answers(26, x, "count", 2);
    }

    private static final String ALONE = "";
    private static final String MORE = "pg0125;";
    private static final String FEWER = "pg0124;";
    private static final String AS_MANY = "pg0125;pg0124;";

    /** The next BELIEF of one in CELL 12, 4 STEPS from HERE, at BELIEF 0 and at 9: alone, and with others BESIDE him. */
    private static void next(String who, String others, int from0, int from9) {
        CHECK.answers(from0, CHECK.told("p" + who + "120;" + others), "person", 0, 6);
        CHECK.answers(from0, CHECK.told("p" + who + "120;" + others), "behind", 0, 1, 0);
        CHECK.answers(from9, CHECK.told("p" + who + "129;" + others), "person", 0, 6);
        CHECK.answers(from9, CHECK.told("p" + who + "129;" + others), "behind", 0, 1, 0);
    }

    private static void leastAndGreatestBelief() {
        next("g9", ALONE, 0, 9);
        next("g9", MORE, 1, 9);
        next("g9", FEWER, 0, 8);
        next("g9", AS_MANY, 0, 9);
        next("f3", ALONE, 0, 9);
        next("f3", MORE, 1, 9);
        next("f3", FEWER, 0, 8);
        next("f4", ALONE, 1, 9);
        next("f4", MORE, 2, 9);
        next("f4", FEWER, 0, 9);
        next("f4", AS_MANY, 1, 9);
        next("c9", ALONE, 0, 9);
        next("c9", MORE, 5, 5);
        next("c9", FEWER, 4, 4);
        next("c9", AS_MANY, 5, 5);
        next("c9", "pg0120;", 0, 0);
        next("c9", "pg0129;", 9, 9);
        next("s9", ALONE, 0, 8);
        next("s9", MORE, 0, 9);
        next("s9", FEWER, 0, 7);
        next("s9", AS_MANY, 0, 8);
        next("o3", ALONE, 0, 9);
        next("o3", MORE, 1, 9);
        next("o3", FEWER, 0, 9);
        next("o4", ALONE, 1, 9);
        next("o4", MORE, 2, 9);
        next("o4", FEWER, 0, 9);
        next("d0", ALONE, 1, 9);
        next("d0", MORE, 6, 6);
        next("d0", "pg0120;", 1, 1);
        next("d0", "pg0128;", 9, 9);
        next("d0", "pg0129;", 9, 9);
    }

    /** He who is 2 STEPS off is BESIDE one, he who is 3 STEPS off is not; he himself never is. */
    private static void besideOne() {
        PicnicOfSomebody x = CHECK.told("pg0129;pg0129;");
        int[] steps = {4, 3, 2, 3, 4, 3, 2, 1, 2, 3, 2, 1, 0, 1, 2, 3, 2, 1, 2, 3, 4, 3, 2, 3, 4};
        for (int cell = 0; cell < 25; cell++) {
            x.sits(1, cell);
            int beside = steps[cell] <= 2 ? 1 : 0;
            CHECK.answers(beside, x, "person", 0, 4);
            CHECK.answers(beside, x, "person", 0, 5);
            CHECK.answers(beside, x, "person", 1, 4);
            CHECK.answers(beside == 1 ? 3 : 1, x, "heard", 0);
        }
    }

    private static void yearsUpTo999() {
        PicnicOfSomebody x = new PicnicOfSomebody();
        for (int k = 1; k <= 16; k++) {
            CHECK.answers(0, x, "years", 60);
            CHECK.answers(60L * k, x, "count", 1);
        }
        CHECK.due("to 998", Check.read(x, "y38;"), 1);
        CHECK.due("past 999 by one", Check.read(x, "y02;"), -2000);
        CHECK.answers(998, x, "count", 1);
        CHECK.answers(-6, x, "years", 2);
        CHECK.due("to 999", Check.read(x, "y01;"), 1);
        CHECK.answers(999, x, "count", 1);
        CHECK.due("past 999", Check.read(x, "y01;"), -2000);
        CHECK.due("past 999 behind others", Check.read(x, "pg0009;h0101;y60;"), -2013);
        CHECK.answers(999, x, "count", 1);
        CHECK.answers(0, x, "count", 0);
        CHECK.answers(999, x, "image");
        CHECK.answers(999, x, "on");
        PicnicOfSomebody y = CHECK.told("y60;".repeat(15) + "y40;");
        CHECK.answers(-6, y, "years", 60);
        CHECK.answers(0, y, "years", 59);
        CHECK.answers(999, y, "count", 1);
    }

    private static final String[] QUESTIONS = {"behind 0 60 0", "behind 3 60 1", "then 60 0", "then 60 1", "depthThen 12 60",
        "depthThen 3 60", "first 0", "first 1", "first 2", "first 3", "makes 20", "leaves 20", "ask 60", "sit 1 20 0",
        "sit 1 20 1", "doubt 60", "stranger 60", "passed 60", "wind 7 20 0", "wind 7 20 1", "two 0 1 60", "whatIs 0 0",
        "whatIs 0 1", "who", "lots 20 7 0", "lots 20 7 1", "judge"};

    /** In thought YEAR may pass 999: in YEAR 999 every question is answered as in YEAR 0. */
    private static void thoughtPassesTheLastYear() {
        String text = "h1240;h0340;pg4249;ps0117;pd2000;pf3043;pc0133;";
        PicnicOfSomebody late = Twins.lateWith(CHECK, text);
        PicnicOfSomebody early = CHECK.told(text);
        for (int k = 0; k < 16; k++) {
            int belief = early.behind(0, k, 0);
            CHECK.answers(belief, late, "behind", 0, k, 0);
            CHECK.answers(k + 1, late, "row", belief);
            early.row(belief);
        }
        CHECK.holds("he is what he is", (late.whatIs(0, 0) & 1) == 1 && (late.whatIs(0, 1) & 1 << 4) != 0);
        for (String question : QUESTIONS) {
            String[] words = question.split(" ");
            int[] given = Arrays.stream(words).skip(1).mapToInt(Integer::parseInt).toArray();
            CHECK.answers(Call.answer(early, words[0], given), late, words[0], given);
            CHECK.answers(999, late, "count", 1);
        }
        Check.row(late, 3, 3, 3, 3, 3, 3, 3, 3, 3, 3, 3, 3, 3, 3, 3, 3);
        CHECK.answers(-9, late, "judge");
        CHECK.answers(0, late, "count", 14);
        CHECK.answers(0, late, "count", 16);
    }

    /** A DRAW by its words, with numbers that have no greatest: an int is what is left of them. */
    private static BigInteger stirred(BigInteger z) {
        return BigInteger.valueOf(z.multiply(BigInteger.valueOf(1664525)).add(BigInteger.valueOf(1013904223)).intValue());
    }

    private static int below(BigInteger z, int m) {
        return z.mod(BigInteger.ONE.shiftLeft(31)).divide(BigInteger.valueOf(256)).mod(BigInteger.valueOf(m)).intValue();
    }

    /** A CHILD BESIDE nobody keeps its BELIEF, the second of its two DRAWS. */
    private static void drawsOfOne(int seed) {
        PicnicOfSomebody x = CHECK.told("pc0009;");
        BigInteger z = BigInteger.valueOf(seed);
        int all = 0;
        int believing = 0;
        for (int n = 1; n <= 20; n++) {
            z = stirred(stirred(z));
            all += below(z, 10);
            believing += below(z, 10) >= 5 ? 1 : 0;
            CHECK.answers(believing, x, "lots", n, seed, 0);
            CHECK.answers(all, x, "lots", n, seed, 1);
        }
    }

    /** A FRIEND of FIGURE f at BELIEF b tells by where the lot sets him: 10 more, unless HERE is too far from him. */
    private static void drawsOfACell(int seed) {
        BigInteger first = stirred(BigInteger.valueOf(seed));
        int cell = below(first, 25);
        int belief = below(stirred(first), 10);
        int steps = cell / 5 + cell % 5;
        for (int figure = 0; figure <= 9; figure++) {
            PicnicOfSomebody x = CHECK.told("pf" + figure + "000;");
            // A BELIEVER comes to HERE in at most 8 YEARS and then has at least 2 left.
            int came = Math.min(9, belief + 10 - Math.max(0, steps - figure));
            CHECK.answers(steps <= figure ? 9 : belief >= 5 ? came : belief, x, "lots", 1, seed, 1);
        }
    }

    /** Of eight by number, the CELL and then the BELIEF; of the next slope by the same z. */
    private static void drawsOfEight(int seed) {
        String text = "h1240;pg4000;pf3000;pc0000;ps0000;po5000;pd0000;pg0000;pc0000;";
        PicnicOfSomebody x = CHECK.told(text);
        BigInteger z = BigInteger.valueOf(seed);
        int all = 0;
        int believing = 0;
        for (int n = 1; n <= 2; n++) {
            PicnicOfSomebody byHand = CHECK.told(text);
            for (int i = 0; i < 8; i++) {
                z = stirred(z);
                byHand.sits(i, below(z, 25));
                z = stirred(z);
                byHand.believes(i, below(z, 10));
            }
            byHand.years(10);
            all += byHand.count(3);
            believing += Integer.bitCount(byHand.count(2));
            CHECK.answers(believing, x, "lots", n, seed, 0);
            CHECK.answers(all, x, "lots", n, seed, 1);
        }
    }

    private static void drawsThatWrapAround() {
        CHECK.due("681 is stirred without a wrap", stirred(BigInteger.valueOf(681)).longValue(), 2147445748L);
        CHECK.due("682 wraps to below 0", stirred(BigInteger.valueOf(682)).longValue(), -2145857023L);
        int[] seeds = {0, 1, -1, 681, 682, -609, -610, 65536, -65536, Integer.MAX_VALUE, Integer.MIN_VALUE};
        for (int seed : seeds) {
            drawsOfOne(seed);
            drawsOfACell(seed);
            drawsOfEight(seed);
        }
    }

    public static void main(String[] args) {
        cellsAndSteps();
        stepsOfAFriend();
        leastAndGreatestDepth();
        deeperAndLessDeep();
        whoDigs();
        hereIsTheLeastOfSeveral();
        eightPeopleAtMost();
        believers();
        leastAndGreatestBelief();
        besideOne();
        yearsUpTo999();
        thoughtPassesTheLastYear();
        drawsThatWrapAround();
        CHECK.end();
    }
}
