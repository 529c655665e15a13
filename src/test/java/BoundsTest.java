import java.util.Arrays;

/**
 * What each promise allows at the least and at the greatest, in its order: nobody and eight, no number and sixteen, no
 * letter and 96, 0 YEARS and as many as may be. (What is refused beyond these: RefusalTest.)
 */
public final class BoundsTest {
    private static final Check CHECK = new Check();
    private static final Twins NOBODY = Twins.nobody(CHECK);
    private static final Twins THREE = Twins.three(CHECK);
    private static final Twins EIGHT = Twins.eight(CHECK);

    private static void asks(long want, String text, String name, int... given) {
        PicnicOfSomebody x = CHECK.told(text);
        CHECK.due("\"" + text + "\": " + Call.told(name, given), Call.answer(x, name, given), want);
    }

    private static void slope(int want, String text) {
        PicnicOfSomebody x = new PicnicOfSomebody();
        CHECK.due("slope() of \"" + text + "\"", Check.read(x, text), want);
        CHECK.answers(0, x, "count", 7);
    }

    private static void promise1NewObject() {
        for (int what = 0; what <= 16; what++) {
            NOBODY.keeps(what >= 8 && what <= 10 ? -9 : 0, "count", what);
        }
        for (int cell = 0; cell < 25; cell++) {
            NOBODY.keeps(0, "depth", cell);
        }
        NOBODY.keeps(0, "place");
    }

    private static void promise2Letter() {
        PicnicOfSomebody x = new PicnicOfSomebody();
        for (int round = 0; round < 2; round++) {
            CHECK.answers(1, x, "letter", 0);
            CHECK.answers(2, x, "letter", 255);
            CHECK.answers(3, x, "letter", 1);
            CHECK.answers(4, x, "letter", 254);
            for (int k = 5; k <= 96; k++) {
                CHECK.answers(k, x, "letter", ';');
            }
            CHECK.answers(-6, x, "letter", ';');
            CHECK.answers(96, x, "count", 7);
            CHECK.answers(-1000, x, "slope");
            CHECK.answers(0, x, "count", 7);
        }
    }

    /** The digits are 0 to 9 and nothing beside them, at each place of each STATEMENT; ";" stands behind each. */
    private static void promise3LettersOfStatements() {
        String[] statements = {"pg3127;", "h1210;", "b05;", "a024;", "y01;"};
        for (String statement : statements) {
            for (int at = 1; at < statement.length(); at++) {
                String ahead = "pg0000;" + statement.substring(0, at);
                String behind = statement.substring(at + 1);
                boolean digit = Character.isDigit(statement.charAt(at));
                slope(-1007 - at, ahead);
                slope(-1007 - at, ahead + (digit ? '/' : '<') + behind);
                slope(-1007 - at, ahead + ':' + behind);
                slope(-1007 - at, ahead + (char) 0 + behind);
                slope(-1007 - at, ahead + (char) 255 + behind);
                slope(-1007 - at, ahead + (digit ? ';' : '0') + behind);
            }
            slope(2, "pg0000;" + statement);
            slope(-1007 - statement.length(), "pg0000;" + statement + ";");
        }
        for (char kind = 0; kind <= 255; kind++) {
            slope("gfcsod".indexOf(kind) >= 0 ? 1 : -1001, "p" + kind + "0000;");
            slope("phbay".indexOf(kind) >= 0 ? -1001 : -1000, "" + kind);
        }
    }

    private static void promise3NumbersOfStatements() {
        for (int v = 0; v <= 99; v++) {
            String two = "" + v / 10 + v % 10;
            slope(v <= 24 ? 1 : -2000, "pg0" + two + "0;");
            slope(v <= 24 ? 1 : -2000, "h" + two + "00;");
            slope(1, "h00" + two + ";");
            slope(v <= 24 ? 2 : -2007, "pg0000;a0" + two + ";");
            slope(v >= 1 && v <= 60 ? 1 : -2000, "y" + two + ";");
        }
        for (int v = 0; v <= 9; v++) {
            slope(1, "pg" + v + "000;");
            slope(1, "pg000" + v + ";");
            slope(2, "pg0000;b0" + v + ";");
            slope(v <= 2 ? 4 : -2021, "pg0000;".repeat(3) + "b" + v + "0;");
            slope(v <= 2 ? 4 : -2021, "pg0000;".repeat(3) + "a" + v + "00;");
            slope(v <= 7 ? 9 : -2056, "pg0000;".repeat(8) + "b" + v + "0;");
            slope(v <= 7 ? 9 : -2056, "pg0000;".repeat(8) + "a" + v + "24;");
        }
    }

    /** Nobody has a number before he has come; the first STATEMENT that is not as it must be counts, a wrong form first. */
    private static void promise3Faults() {
        slope(-1000, "");
        slope(-2000, "b00;pg0000;");
        slope(2, "pg0000;b00;");
        slope(-2007, "pg0000;b10;pg0000;");
        slope(3, "pg0000;pg0000;b10;");
        slope(-2004, "y60;y00;y61;");
        slope(-1008, "y60;y00;x");
        slope(-1013, "y00;h9999;b99");
        slope(-2000, "y00;h9999;b99;");
        slope(-1095, "h0000;".repeat(15) + "h0000");
        slope(16, "h0000;".repeat(16));
        slope(24, "y01;".repeat(24));
        slope(-1096, "pg0000;" + "h0000;".repeat(14) + "pg000");
        PicnicOfSomebody x = CHECK.told("pg0000;");
        CHECK.answers(-1000, x, "slope");
        CHECK.answers(-1000, x, "slope");
        CHECK.answers(1, x, "letter", 'p');
        CHECK.answers(-1001, x, "slope");
        CHECK.answers(-1000, x, "slope");
        // 96 letters that begin a STATEMENT once more than there is room for: it lacks something at the end.
        CHECK.due("95 letters and one", Check.read(x, "h0101;".repeat(15) + "b00;yy"), -1095);
        CHECK.due("94 letters and two", Check.read(x, "h0101;".repeat(15) + "b00;y0"), -1096);
        CHECK.answers(0, x, "count", 4);
    }

    private static void promises4And6DepthAndPlace() {
        PicnicOfSomebody x = CHECK.told("h2499;h0001;");
        int[][] due = {{0, 1}, {1, 0}, {23, 0}, {24, 99}};
        for (int[] cell : due) {
            CHECK.answers(cell[1], x, "depth", cell[0]);
        }
        CHECK.answers(24, x, "place");
        THREE.keeps(11, "depth", 12);
        THREE.keeps(0, "depth", 0);
        THREE.keeps(1, "depth", 24);
        THREE.keeps(12, "place");
    }

    private static void promise5Person() {
        String kinds = "gfcsod";
        for (int k = 0; k < 6; k++) {
            asks(k, "p" + kinds.charAt(k) + "0000;", "person", 0, 0);
            asks(k, "pg0000;".repeat(7) + "p" + kinds.charAt(k) + "9249;", "person", 7, 0);
        }
        String least = "pg0000;";
        String greatest = "pd9249;".repeat(8);
        int[][] due = {{0, 5}, {0, 9}, {0, 24}, {0, 9}, {0, 7}, {0, 7}, {0, 9}};
        for (int what = 0; what < due.length; what++) {
            asks(due[what][0], least, "person", 0, what);
            asks(due[what][1], greatest, "person", 0, what);
            asks(due[what][1], greatest, "person", 7, what);
        }
        int[] first = {0, 3, 12, 7, 0, 0, 7};
        int[] last = {4, 9, 19, 9, 0, 0, 9};
        for (int what = 0; what < 7; what++) {
            THREE.keeps(first[what], "person", 0, what);
            THREE.keeps(last[what], "person", 2, what);
        }
    }

    private static void promises7To10Changes() {
        PicnicOfSomebody x = CHECK.told("pg0000;".repeat(8));
        for (int cell = 0; cell <= 24; cell += 24) {
            CHECK.answers(0, x, "digs", cell, 99);
            CHECK.answers(99, x, "digs", cell, 99);
            CHECK.answers(99, x, "digs", cell, 0);
            CHECK.answers(0, x, "digs", cell, 0);
        }
        for (int i = 0; i <= 7; i += 7) {
            CHECK.answers(0, x, "believes", i, 9);
            CHECK.answers(9, x, "believes", i, 9);
            CHECK.answers(9, x, "believes", i, 0);
            CHECK.answers(0, x, "believes", i, 0);
            CHECK.answers(0, x, "sits", i, 24);
            CHECK.answers(24, x, "sits", i, 24);
            CHECK.answers(24, x, "sits", i, 0);
            CHECK.answers(0, x, "turn", i, 0, 0);
            CHECK.answers(0, x, "turn", i, 5, 9);
            CHECK.answers(59, x, "turn", i, 5, 0);
            CHECK.answers(50, x, "turn", i, 0, 9);
            CHECK.answers(9, x, "turn", i, 0, 0);
        }
        for (int what = 11; what <= 16; what++) {
            CHECK.answers(0, x, "count", what);
        }
    }

    private static void promise11Years() {
        asks(0, "h0001;", "years", 1);
        asks(0, "h0001;", "years", 60);
        asks(8, "pg0009;".repeat(8), "years", 1);
        asks(8, "pg0009;".repeat(8), "years", 60);
        // Two children change places each YEAR, so that 59 YEARS and 60 differ.
        PicnicOfSomebody x = CHECK.told("pc0009;pc0000;");
        CHECK.answers(1, x, "years", 60);
        CHECK.answers(1, x, "count", 2);
        CHECK.answers(60, x, "count", 1);
        CHECK.answers(1, x, "years", 1);
        CHECK.answers(2, x, "count", 2);
        CHECK.answers(61, x, "count", 1);
    }

    private static void promise12Behind() {
        asks(9, "pc0009;pc0000;", "behind", 0, 0, 0);
        asks(0, "pc0009;pc0000;", "behind", 0, 1, 0);
        asks(0, "pc0009;pc0000;", "behind", 0, 59, 0);
        asks(9, "pc0009;pc0000;", "behind", 0, 60, 0);
        asks(0, "pc0009;pc0000;", "behind", 1, 60, 0);
        asks(24, "pg0249;", "behind", 0, 0, 1);
        asks(1, "pg0249;", "behind", 0, 7, 1);
        asks(0, "pg0249;", "behind", 0, 8, 1);
        asks(0, "pg0249;", "behind", 0, 60, 1);
        asks(24, "pg0244;", "behind", 0, 60, 1);
        asks(9, "pg0009;".repeat(8), "behind", 7, 60, 0);
        THREE.keeps(9, "behind", 2, 0, 0);
        THREE.keeps(19, "behind", 2, 0, 1);
        THREE.keeps(9, "behind", 2, 60, 0);
        THREE.keeps(12, "behind", 2, 60, 1);
    }

    private static void promise13Then() {
        String lastYearCounts = "h0709;pg4170;pd1004;po3182;pg9014;po9242;";
        asks(0, lastYearCounts, "then", 0, 1);
        asks(1, lastYearCounts, "then", 59, 1);
        asks(0, lastYearCounts, "then", 60, 1);
        asks(7, lastYearCounts, "then", 0, 0);
        asks(7, lastYearCounts, "then", 60, 0);
        asks(24, "h2499;", "then", 60, 0);
        asks(8, "pg0009;".repeat(8), "then", 60, 1);
        NOBODY.keeps(0, "then", 0, 0);
        NOBODY.keeps(0, "then", 0, 1);
        NOBODY.keeps(0, "then", 60, 0);
        NOBODY.keeps(0, "then", 60, 1);
        THREE.keeps(12, "then", 60, 0);
        THREE.keeps(2, "then", 60, 1);
    }

    private static void promise14DepthThen() {
        String text = "h0099;h0199;h0260;h0361;h2459;";
        int[][] due = {{0, 0, 99}, {0, 60, 99}, {1, 0, 99}, {1, 59, 40}, {1, 60, 39}, {2, 59, 1}, {2, 60, 0}, {3, 60, 1},
            {4, 60, 0}, {24, 0, 59}, {24, 58, 1}, {24, 59, 0}, {24, 60, 0}};
        for (int[] row : due) {
            asks(row[2], text, "depthThen", row[0], row[1]);
        }
        asks(60, "pg0009;", "depthThen", 0, 60);
        asks(99, "pg0009;".repeat(8), "depthThen", 0, 60);
        THREE.keeps(11, "depthThen", 12, 0);
        THREE.keeps(12, "depthThen", 12, 1);
        THREE.keeps(99, "depthThen", 12, 60);
        THREE.keeps(0, "depthThen", 24, 60);
    }

    private static void promise15First() {
        int[] nobody = {0, 0, 0, -9};
        int[] three = {-9, -9, 3, -9};
        for (int what = 0; what <= 3; what++) {
            NOBODY.keeps(nobody[what], "first", what);
            THREE.keeps(three[what], "first", what);
        }
        asks(0, "pg0005;", "first", 0);
        asks(-9, "pg0004;", "first", 0);
        asks(1, "pd0004;", "first", 0);
        asks(0, "pg0004;", "first", 1);
        asks(-9, "pg0005;", "first", 1);
        asks(1, "ps0005;", "first", 1);
        asks(0, "pg0009;".repeat(8), "first", 0);
        asks(-9, "pg0009;".repeat(8), "first", 1);
        asks(0, "pg0009;".repeat(8), "first", 2);
        // He sits still, but his BELIEF changes; and he whose BELIEF stays goes to another CELL.
        asks(1, "ps0001;", "first", 2);
        asks(1, "pg0019;", "first", 2);
        asks(-9, "pc0009;pc0000;", "first", 2);
        asks(-9, "h0099;h0199;pg0249;", "first", 3);
    }

    private static void promise16Makes() {
        String lastYearCounts = "h0009;pc5110;pd0240;";
        asks(1, lastYearCounts, "makes", 19);
        asks(0, lastYearCounts, "makes", 20);
        asks(3, lastYearCounts, "makes", 0);
        asks(0, "pg0005;", "makes", 0);
        asks(1, "pg0004;", "makes", 0);
        asks(1, "pg0004;", "makes", 20);
        asks(-9, "ps0009;", "makes", 20);
        asks(0, "pg0009;".repeat(8), "makes", 20);
        asks(255, "pg0000;".repeat(8), "makes", 0);
        asks(128, "pg0009;".repeat(7) + "pg0004;", "makes", 0);
        NOBODY.keeps(0, "makes", 0);
        NOBODY.keeps(0, "makes", 20);
        THREE.keeps(2, "makes", 0);
        THREE.keeps(2, "makes", 20);
    }

    private static void promise17Leaves() {
        String lastYearCounts = "h0809;pg3033;pd0160;";
        asks(2, lastYearCounts, "leaves", 19);
        asks(0, lastYearCounts, "leaves", 20);
        asks(0, "pg0004;", "leaves", 0);
        asks(1, "pg0005;", "leaves", 0);
        asks(1, "pg0005;", "leaves", 20);
        asks(255, "pg0009;".repeat(8), "leaves", 0);
        asks(128, "pg0000;".repeat(7) + "pg0009;", "leaves", 0);
        NOBODY.keeps(0, "leaves", 0);
        NOBODY.keeps(0, "leaves", 20);
        THREE.keeps(5, "leaves", 0);
        THREE.keeps(5, "leaves", 20);
    }

    private static void promise18Ask() {
        String lastYearCounts = "h2209;ps2203;pg2123;pd0161;ps9200;ps0149;";
        asks(-9, lastYearCounts, "ask", 59);
        asks(2, lastYearCounts, "ask", 60);
        asks(0, "pg0004;", "ask", 0);
        asks(0, "pg0004;", "ask", 60);
        asks(-9, "pg0005;", "ask", 0);
        asks(-9, "pg0009;".repeat(8), "ask", 60);
        asks(7, "pg0009;".repeat(7) + "pg0004;", "ask", 0);
        NOBODY.keeps(-9, "ask", 0);
        NOBODY.keeps(-9, "ask", 60);
        THREE.keeps(1, "ask", 0);
        THREE.keeps(1, "ask", 60);
    }

    private static void promise19Sit() {
        asks(8, "h0009;pg2195;pf0244;", "sit", 0, 19, 1);
        asks(9, "h0009;pg2195;pf0244;", "sit", 0, 20, 1);
        asks(1, "h2209;pd3215;pg3223;", "sit", 0, 19, 0);
        asks(0, "h2209;pd3215;pg3223;", "sit", 0, 20, 0);
        asks(24, "h2401;pf0000;", "sit", 0, 1, 0);
        asks(1, "h2401;pf0000;", "sit", 0, 1, 1);
        asks(0, "pf0240;", "sit", 0, 20, 0);
        asks(9, "pf0240;", "sit", 0, 20, 1);
        asks(0, "ps0249;", "sit", 0, 0, 0);
        asks(9, "ps0249;", "sit", 0, 0, 1);
        asks(0, "ps0249;", "sit", 0, 20, 0);
        asks(0, "ps0249;", "sit", 0, 20, 1);
        asks(14, "pg0000;".repeat(7) + "h2401;pf2000;", "sit", 7, 1, 0);
        // The four have each of the 25 CELLS BESIDE them: there is no CELL beyond where he would stay at 9.
        asks(0, "pg0129;pg0060;pg0080;pg0160;pg0180;", "sit", 0, 1, 0);
        asks(8, "pg0129;pg0060;pg0080;pg0160;pg0180;", "sit", 0, 1, 1);
        THREE.keeps(0, "sit", 0, 0, 0);
        THREE.keeps(7, "sit", 0, 0, 1);
        THREE.keeps(0, "sit", 2, 20, 0);
        THREE.keeps(9, "sit", 2, 20, 1);
    }

    private static void promise20Doubt() {
        String lastYearCounts = "h0409;po1100;pc8160;pc9008;pd8140;pg6084;";
        asks(3, lastYearCounts, "doubt", 59);
        asks(0, lastYearCounts, "doubt", 60);
        asks(0, "pg0009;", "doubt", 0);
        asks(0, "pg0009;", "doubt", 60);
        asks(7, "po0009;".repeat(7) + "pg0245;", "doubt", 60);
        NOBODY.keeps(-9, "doubt", 0);
        NOBODY.keeps(-9, "doubt", 60);
        THREE.keeps(0, "doubt", 0);
        THREE.keeps(0, "doubt", 60);
    }

    private static void promise21Stranger() {
        String lastYearCounts = "h1209;pg7021;ps5030;pg2104;pd5060;pg5091;";
        asks(2, lastYearCounts, "stranger", 59);
        asks(3, lastYearCounts, "stranger", 60);
        asks(-2, "h0909;pd9060;ps0197;pc0079;po6230;pg5031;pg8191;", "stranger", 59);
        asks(-3, "h0909;pd9060;ps0197;pc0079;po6230;pg5031;pg8191;", "stranger", 60);
        asks(0, "pg0004;".repeat(7), "stranger", 0);
        asks(7, "pc0244;".repeat(7), "stranger", 1);
        asks(-9, "pc0244;".repeat(8), "stranger", 1);
        NOBODY.keeps(0, "stranger", 0);
        NOBODY.keeps(0, "stranger", 60);
        THREE.keeps(0, "stranger", 0);
        THREE.keeps(0, "stranger", 60);
        EIGHT.keeps(-9, "stranger", 0);
        EIGHT.keeps(-9, "stranger", 60);
    }

    private static void promise22Nearest() {
        NOBODY.keeps(-9, "nearest");
        asks(0, "pg0240;", "nearest");
        asks(0, "pg0000;".repeat(8), "nearest");
        asks(7, "pg0240;".repeat(7) + "pg0230;", "nearest");
        THREE.keeps(0, "nearest");
    }

    private static void promise23Passed() {
        asks(0, "pg9009;".repeat(8), "passed", 0);
        asks(72, "pg9009;".repeat(8), "passed", 1);
        asks(4320, "pg9009;".repeat(8), "passed", 60);
        asks(0, "pg0009;".repeat(8), "passed", 60);
        // As each YEAR begins: the dog believes only when the second does, the doubter only when the first does.
        asks(0, "pd9004;", "passed", 1);
        asks(9, "pd9004;", "passed", 2);
        asks(9, "ps9005;", "passed", 1);
        asks(9, "ps9005;", "passed", 60);
        NOBODY.keeps(0, "passed", 0);
        NOBODY.keeps(0, "passed", 60);
        THREE.keeps(0, "passed", 0);
        THREE.keeps(720, "passed", 60);
    }

    private static void promises24And25HeardAndGroups() {
        asks(1, "pg0000;", "heard", 0);
        asks(255, "pg0240;".repeat(8), "heard", 0);
        asks(255, "pg0240;".repeat(8), "heard", 7);
        asks(128, "pg0000;".repeat(7) + "pg0240;", "heard", 7);
        NOBODY.keeps(0, "groups", 0);
        NOBODY.keeps(0, "groups", 1);
        asks(1, "pg0000;", "groups", 0);
        asks(1, "pg0000;", "groups", 1);
        asks(1, "pg0000;".repeat(8), "groups", 0);
        asks(8, "pg0000;".repeat(8), "groups", 1);
        // No more than six can sit so far apart.
        asks(6, "pg0000;pg0030;pg0110;pg0140;pg0200;pg0230;", "groups", 0);
        asks(1, "pg0000;pg0030;pg0110;pg0140;pg0200;pg0230;", "groups", 1);
        THREE.keeps(1, "heard", 0);
        THREE.keeps(4, "heard", 2);
        THREE.keeps(3, "groups", 0);
        THREE.keeps(1, "groups", 1);
    }

    private static void promise26Middle() {
        NOBODY.keeps(0, "middle", 0);
        NOBODY.keeps(0, "middle", 1);
        asks(24, "pg0240;".repeat(8), "middle", 0);
        asks(0, "pg0240;".repeat(8), "middle", 1);
        asks(0, "pg0000;pg0240;".repeat(4), "middle", 0);
        asks(32, "pg0000;pg0240;".repeat(4), "middle", 1);
        asks(24, "pg0000;".repeat(3) + "pg0240;".repeat(4), "middle", 0);
        asks(24, "pg0000;".repeat(3) + "pg0240;".repeat(4), "middle", 1);
        THREE.keeps(12, "middle", 0);
        THREE.keeps(7, "middle", 1);
    }

    /** He who comes up is BESIDE the other as the seventh YEAR begins; the wind changes none of it. */
    private static void promise27Wind() {
        for (int t = 2; t <= 20; t += 18) {
            asks(0, "pg0249;pg0004;", "wind", 6, t, 0);
            asks(1, "pg0249;pg0004;", "wind", 6, t, 1);
            asks(1, "pg0249;pg0004;", "wind", 7, t, 0);
            asks(1, "pg0249;pg0004;", "wind", 7, t, 1);
            asks(1, "pg0005;", "wind", 0, t, 0);
            asks(0, "pg0004;", "wind", 0, t, 0);
            asks(1, "pg0004;", "wind", 0, t, 1);
            asks(1, "pg0009;".repeat(8), "wind", 7, t, 0);
        }
        NOBODY.keeps(1, "wind", 0, 2, 0);
        NOBODY.keeps(1, "wind", 7, 20, 1);
        THREE.keeps(0, "wind", 0, 2, 0);
        THREE.keeps(1, "wind", 7, 20, 1);
    }

    private static void promise28Mean() {
        NOBODY.keeps(0, "mean", 0);
        NOBODY.keeps(1, "mean", 1);
        asks(0, "pg0000;".repeat(8), "mean", 0);
        asks(1, "pg0000;".repeat(8), "mean", 1);
        asks(9, "pg0009;".repeat(8), "mean", 0);
        asks(1, "pg0009;".repeat(8), "mean", 1);
        asks(1, "pg0000;".repeat(7) + "pg0001;", "mean", 0);
        asks(8, "pg0000;".repeat(7) + "pg0001;", "mean", 1);
        asks(71, "pg0009;".repeat(7) + "pg0008;", "mean", 0);
        asks(8, "pg0009;".repeat(7) + "pg0008;", "mean", 1);
        asks(35, "pg0009;".repeat(7) + "pg0007;", "mean", 0);
        asks(4, "pg0009;".repeat(7) + "pg0007;", "mean", 1);
        THREE.keeps(16, "mean", 0);
        THREE.keeps(3, "mean", 1);
    }

    private static void promise29Two() {
        String lastYearCounts = "h0009;pd2057;pf4189;pd1240;pf3214;pg0103;";
        asks(0, lastYearCounts, "two", 0, 1, 59);
        asks(10, lastYearCounts, "two", 0, 1, 60);
        asks(10, "pg0000;".repeat(8), "two", 0, 7, 0);
        asks(10, "pg0000;".repeat(8), "two", 7, 0, 0);
        asks(0, "ps0000;".repeat(8), "two", 7, 6, 60);
        // Each chooses 0 or 1 and nothing beyond, so that here no pair stands.
        asks(-9, "h0409;ps2095;pd4069;", "two", 0, 1, 7);
        asks(-9, "h1509;ps1051;pd6047;", "two", 0, 1, 10);
        THREE.keeps(10, "two", 0, 2, 0);
        THREE.keeps(0, "two", 1, 0, 60);
    }

    private static void row(long want, String text, int[] row, String name, int... given) {
        PicnicOfSomebody x = CHECK.told(text);
        Check.row(x, row);
        CHECK.due("\"" + text + "\": " + Call.told(name, given), Call.answer(x, name, given), want);
        CHECK.answers(name.equals("judge") ? 0 : row.length, x, "count", 6);
    }

    private static int[] sixteen(int v, int last) {
        int[] row = new int[16];
        Arrays.fill(row, v);
        row[15] = last;
        return row;
    }

    private static void promises30And31WhatIsAndWho() {
        int[] none = {};
        row(63, "pg0000;", none, "whatIs", 0, 0);
        row(1023, "pg0000;", none, "whatIs", 0, 1);
        row(0, "pg0009;", new int[] {99}, "whatIs", 0, 0);
        row(0, "pg0009;", new int[] {99}, "whatIs", 0, 1);
        row(23, "pg0244;", sixteen(4, 4), "whatIs", 0, 0);
        row(0, "pg0244;", sixteen(4, 5), "whatIs", 0, 0);
        row(1023, "pg0244;", sixteen(4, 4), "whatIs", 0, 1);
        row(0, "pg0244;", sixteen(4, 5), "whatIs", 0, 1);
        row(63, "pg0009;".repeat(8), new int[] {9}, "whatIs", 7, 0);
        row(18, "pg0004;".repeat(7) + "pg0009;", new int[] {9, 9}, "whatIs", 7, 0);
        // He who alone is 8 STEPS from HERE is a FRIEND of FIGURE 8 or 9, if he believes more; of 0 to 7, if not.
        row(768, "pf0243;", new int[] {3, 4}, "whatIs", 0, 1);
        row(255, "pf0243;", new int[] {3, 3}, "whatIs", 0, 1);
        NOBODY.keeps(0, "who");
        row(255, "pg0000;".repeat(8), none, "who");
        row(255, "pg0009;".repeat(8), sixteen(7, 7), "who");
        row(0, "pg0009;".repeat(8), sixteen(7, 8), "who");
        row(0, "pg0009;".repeat(8), sixteen(8, 8), "who");
        row(0, "pg0009;".repeat(8), new int[] {99}, "who");
        row(128, "pg0000;".repeat(7) + "pg0249;", sixteen(0, 0), "who");
        THREE.keeps(0, "who");
        THREE.keeps(0, "whatIs", 0, 0);
    }

    private static void promises32To34Row() {
        PicnicOfSomebody x = new PicnicOfSomebody();
        for (int round = 0; round < 2; round++) {
            CHECK.answers(0, x, "clear");
            CHECK.answers(1, x, "row", 0);
            CHECK.answers(2, x, "row", 99);
            for (int k = 3; k <= 16; k++) {
                CHECK.answers(k, x, "row", k);
            }
            CHECK.answers(-6, x, "row", 0);
            CHECK.answers(16, x, "count", 6);
            CHECK.answers(round == 0 ? 16 : 1, x, round == 0 ? "clear" : "judge");
            CHECK.answers(0, x, "count", 6);
        }
        row(-9, "h2401;", new int[] {}, "judge");
        row(-9, "h2401;", new int[] {24}, "judge");
        row(0, "h2401;", new int[] {99}, "judge");
        row(0, "h2401;", new int[] {0}, "judge");
        row(-9, "h2401;", sixteen(24, 24), "judge");
        row(15, "h2401;", sixteen(24, 23), "judge");
        row(0, "h2401;", sixteen(23, 24), "judge");
        judgedChangesNothingElse(new int[] {12, 12, 12});
        judgedChangesNothingElse(new int[] {12, 0, 12});
        judgedChangesNothingElse(new int[] {});
    }

    private static void judgedChangesNothingElse(int[] row) {
        PicnicOfSomebody one = CHECK.told("pg3127;ps0000;h1210;h2402;");
        PicnicOfSomebody other = CHECK.told("pg3127;ps0000;h1210;h2402;");
        Check.row(one, row);
        one.judge();
        Twins.alike(CHECK, "judge()", one, other);
    }

    private static void promise35Lots() {
        int[] seeds = {0, Integer.MIN_VALUE, Integer.MAX_VALUE};
        for (int z : seeds) {
            asks(0, "ps0000;", "lots", 1, z, 0);
            asks(0, "ps0000;", "lots", 20, z, 1);
            asks(1, "pd0000;", "lots", 1, z, 0);
            asks(9, "pd0000;", "lots", 1, z, 1);
            asks(20, "pd0000;", "lots", 20, z, 0);
            asks(180, "pd0000;", "lots", 20, z, 1);
            NOBODY.keeps(0, "lots", 1, z, 0);
            NOBODY.keeps(0, "lots", 20, z, 1);
        }
        THREE.keeps(Call.answer(CHECK.told("pg3127;ps0000;po9199;h1211;h2401;y01;"), "lots", 20, 7, 1), "lots", 20, 7, 1);
    }

    private static void promises36And37ImageAndOn() {
        PicnicOfSomebody x = new PicnicOfSomebody();
        CHECK.answers(-3, x, "on");
        CHECK.answers(0, x, "image");
        CHECK.due("eight come", Check.read(x, "pg0009;".repeat(8) + "h2499;y60;"), 10);
        CHECK.answers(0, x, "on");
        CHECK.answers(0, x, "count", 0);
        CHECK.answers(0, x, "count", 1);
        CHECK.answers(0, x, "count", 4);
        CHECK.answers(-1, x, "person", 0, 0);
        CHECK.due("eight come again", Check.read(x, "pd9249;".repeat(8) + "h2499;y01;"), 10);
        CHECK.answers(1, x, "image");
        for (int k = 0; k < 2; k++) {
            CHECK.answers(1, x, "on");
            CHECK.answers(8, x, "count", 0);
            CHECK.answers(99, x, "depth", 24);
            CHECK.answers(59, x, "turn", 7, 0, 0);
            CHECK.answers(24, x, "sits", 7, 0);
            CHECK.answers(9, x, "believes", 7, 0);
            CHECK.answers(99, x, "digs", 24, 0);
        }
        // It is no part of THE IMAGE that there is one: ON goes back to it, and a second time too.
        CHECK.answers(1, x, "on");
        CHECK.answers(1, x, "count", 13);
        PicnicOfSomebody one = CHECK.told("pg3127;h1210;");
        PicnicOfSomebody other = CHECK.told("pg3127;h1210;");
        one.image();
        other.image();
        one.image();
        Twins.alike(CHECK, "image()", one, other);
    }

    private static void promise38Count() {
        int[] nobody = {0, 0, 0, 0, 0, 0, 0, 0};
        int[] greatest = {8, 999, 255, 72, 25 * 99, 0, 16, 96};
        PicnicOfSomebody none = new PicnicOfSomebody();
        PicnicOfSomebody full = Twins.lateWith(CHECK, "pg0009;".repeat(8));
        for (int cell = 0; cell < 25; cell++) {
            full.digs(cell, 99);
        }
        Check.row(full, sixteen(0, 0));
        Check.letters(full, ";".repeat(96));
        for (int what = 0; what < 8; what++) {
            CHECK.answers(nobody[what], none, "count", what);
            CHECK.answers(greatest[what], full, "count", what);
        }
        CHECK.answers(99, full, "digs", 0, 98);
        for (int cell = 1; cell < 24; cell++) {
            full.digs(cell, 98);
        }
        CHECK.answers(24, full, "count", 5);
        int[] three = {3, 1, 5, 16, 12, 12, 2, 6};
        for (int what = 0; what < 8; what++) {
            THREE.keeps(three[what], "count", what);
        }
    }

    public static void main(String[] args) {
        promise1NewObject();
        promise2Letter();
        promise3LettersOfStatements();
        promise3NumbersOfStatements();
        promise3Faults();
        promises4And6DepthAndPlace();
        promise5Person();
        promises7To10Changes();
        promise11Years();
        promise12Behind();
        promise13Then();
        promise14DepthThen();
        promise15First();
        promise16Makes();
        promise17Leaves();
        promise18Ask();
        promise19Sit();
        promise20Doubt();
        promise21Stranger();
        promise22Nearest();
        promise23Passed();
        promises24And25HeardAndGroups();
        promise26Middle();
        promise27Wind();
        promise28Mean();
        promise29Two();
        promises30And31WhatIsAndWho();
        promises32To34Row();
        promise35Lots();
        promises36And37ImageAndOn();
        promise38Count();
        CHECK.end();
    }
}
