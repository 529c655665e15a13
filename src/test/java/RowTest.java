/** Promises 30 to 34: the ROW, and what it tells. */
public final class RowTest {
    private static final Check CHECK = new Check();

    private static void numbers() {
        PicnicOfSomebody x = new PicnicOfSomebody();
        CHECK.due("clear() of none", x.clear(), 0);
        CHECK.due("row(-1)", x.row(-1), -4);
        CHECK.due("row(100)", x.row(100), -6);
        CHECK.due("row(0)", x.row(0), 1);
        CHECK.due("row(99)", x.row(99), 2);
        for (int k = 3; k <= 16; k++) {
            CHECK.due("number " + k, x.row(k), k);
        }
        CHECK.due("number 17", x.row(0), -6);
        CHECK.due("row(-1) when full", x.row(-1), -4);
        CHECK.due("count(6)", x.count(6), 16);
        CHECK.due("count(14)", x.count(14), 2);
        CHECK.due("count(16)", x.count(16), 2);
        CHECK.due("clear()", x.clear(), 16);
        CHECK.due("clear() again", x.clear(), 0);
        CHECK.due("row behind clear()", x.row(5), 1);
    }

    private static void whatHeIs(String text, int kinds, int figures, int... row) {
        PicnicOfSomebody x = CHECK.told(text);
        Check.row(x, row);
        CHECK.due("KINDS of " + text, x.whatIs(0, 0), kinds);
        CHECK.due("FIGURES of " + text, x.whatIs(0, 1), figures);
        CHECK.due("the ROW stays", x.count(6), row.length);
        CHECK.due("so does he", 10 * x.person(0, 0) + x.person(0, 1), CHECK.told(text).turn(0, 0, 0));
    }

    private static void whatTheyAre() {
        whatHeIs("pg4125;", 63, 1023);
        whatHeIs("pg4125;", 63, 1023, 5);
        whatHeIs("pg4125;", 0, 0, 4);
        whatHeIs("pg4125;", 5, 1023, 5, 5);
        whatHeIs("pg4125;", 50, 0, 5, 6);
        whatHeIs("pg4125;", 8, 0, 5, 4);
        whatHeIs("pf4125;", 50, 1008, 5, 6);
        whatHeIs("pf4125;", 5, 15, 5, 5);
        whatHeIs("pf3125;", 23, 15, 5, 5);
        whatHeIs("pf3125;", 32, 1008, 5, 6, 7, 8, 9, 9);
        whatHeIs("pg4125;", 5, 1023, 5, 5, 5, 5, 5, 5, 5, 5, 5, 5, 5, 5, 5, 5, 5, 5);
        whatHeIs("pg4125;", 0, 0, 5, 5, 5, 5, 5, 5, 5, 5, 5, 5, 5, 5, 5, 5, 5, 4);
        PicnicOfSomebody x = CHECK.told("pg0000;");
        CHECK.due("whatIs(1, 2)", x.whatIs(1, 2), -1);
        CHECK.due("whatIs(-1, 0)", x.whatIs(-1, 0), -1);
        CHECK.due("whatIs(0, 2)", x.whatIs(0, 2), -2);
        CHECK.due("whatIs(0, -1)", x.whatIs(0, -1), -2);
    }

    private static void missing(String text, int want, int... row) {
        PicnicOfSomebody x = CHECK.told(text);
        Check.row(x, row);
        CHECK.due("who() of " + text, x.who(), want);
        CHECK.due("the ROW stays", x.count(6), row.length);
        CHECK.due("and so do all", x.count(0), CHECK.told(text).count(0));
    }

    private static void whoIsMissing() {
        missing("pg0009;pg0240;", 3);
        missing("pg0009;pg0240;", 2, 1);
        missing("pg0009;pg0240;", 1, 0, 0, 0);
        missing("pg0009;pg0240;", 0, 2);
        missing("ps0006;ps0245;pg0200;", 2, 1, 1, 0);
        missing("ps0006;ps0245;pg0200;", 1, 1, 0, 0);
        missing("ps0006;ps0245;pg0200;", 4, 2, 1, 0);
        missing("pg0240;pf2024;", 1, 0, 1);
        missing("pg0240;pf2024;", 2, 0, 0);
        PicnicOfSomebody x = new PicnicOfSomebody();
        CHECK.due("who() of nobody", x.who(), 0);
    }

    private static void judge(String text, int want, int... row) {
        PicnicOfSomebody x = CHECK.told(text);
        Check.row(x, row);
        CHECK.due("judge() of " + text, x.judge(), want);
        CHECK.due("the ROW has none", x.count(6), 0);
        CHECK.due("judge() of none", x.judge(), -9);
    }

    private static void judgedAsThingsStand() {
        PicnicOfSomebody x = CHECK.told("h1205;pg0009;");
        x.then(60, 0);
        x.digs(3, 50);
        Check.row(x, 3, 3, 3, 12);
        CHECK.due("judge() by another HERE", x.judge(), 3);
    }

    private static void judged() {
        judgedAsThingsStand();
        judge("h1205;pg0009;", -9);
        judge("h1205;pg0009;", -9, 12);
        judge("h1205;pg0009;", 0, 11, 12);
        judge("h1205;pg0009;", 1, 12, 99, 12);
        judge("h1205;pg0009;", -9, 12, 12, 12, 12, 12, 12, 12, 12, 12, 12, 12, 12, 12, 12, 12, 12);
        judge("h1205;pg0009;", 15, 12, 12, 12, 12, 12, 12, 12, 12, 12, 12, 12, 12, 12, 12, 12, 0);
    }

    public static void main(String[] args) {
        numbers();
        whatTheyAre();
        whoIsMissing();
        judged();
        CHECK.end();
    }
}
