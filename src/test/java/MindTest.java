/** Promises 12 to 21 and 23: what would be n YEARS on, and by whom. */
public final class MindTest {
    private static final Check CHECK = new Check();

    private static void laterThings() {
        PicnicOfSomebody x = CHECK.told("h1210;h0305;pg0019;pc0244;");
        int[] cells = {1, 6, 11, 12, 12};
        for (int n = 0; n < cells.length; n++) {
            CHECK.due("behind(0, " + n + ", 1)", x.behind(0, n, 1), cells[n]);
            CHECK.due("then(" + n + ", 0)", x.then(n, 0), 12);
            CHECK.due("then(" + n + ", 1)", x.then(n, 1), 1);
            CHECK.due("depthThen(3, " + n + ")", x.depthThen(3, n), 5 - n);
        }
        CHECK.due("depthThen(3, 60)", x.depthThen(3, 60), 0);
        CHECK.due("depthThen(12, 2)", x.depthThen(12, 2), 11);
        CHECK.due("depthThen(12, 60)", x.depthThen(12, 60), 69);
        CHECK.due("behind(0, 60, 0)", x.behind(0, 60, 0), 9);
        CHECK.due("behind(1, 60, 0)", x.behind(1, 60, 0), 4);
        CHECK.due("behind(1, 60, 1)", x.behind(1, 60, 1), 24);
        CHECK.due("YEAR as it was", x.count(1), 0);
        CHECK.due("CELL as it was", x.person(0, 2), 1);
        CHECK.due("DEPTH as it was", x.count(4), 15);
        PicnicOfSomebody y = CHECK.told("ps0009;");
        for (int n = 0; n < 10; n++) {
            CHECK.due("doubting behind " + n, y.behind(0, n, 0), 9 - n);
            CHECK.due("believing behind " + n, y.then(n, 1), n <= 4 ? 1 : 0);
        }
        CHECK.due("doubting to the end", y.behind(0, 60, 0), 0);
    }

    private static void laterThanTheLastYear() {
        PicnicOfSomebody x = CHECK.told("y60;".repeat(16) + "y39;ps0009;");
        CHECK.due("YEAR", x.count(1), 999);
        CHECK.due("behind(0, 60, 0)", x.behind(0, 60, 0), 0);
        CHECK.due("then(4, 1)", x.then(4, 1), 1);
        CHECK.due("first(1)", x.first(1), 5);
        CHECK.due("depthThen(0, 60)", x.depthThen(0, 60), 5);
    }

    private static void laterRefused() {
        PicnicOfSomebody x = CHECK.told("pg0000;");
        CHECK.due("behind(1, -1, 2)", x.behind(1, -1, 2), -1);
        CHECK.due("behind(-1, 0, 0)", x.behind(-1, 0, 0), -1);
        CHECK.due("behind(0, -1, 2)", x.behind(0, -1, 2), -4);
        CHECK.due("behind(0, 61, 2)", x.behind(0, 61, 2), -6);
        CHECK.due("behind(0, 0, 2)", x.behind(0, 0, 2), -2);
        CHECK.due("behind(0, 0, -1)", x.behind(0, 0, -1), -2);
        CHECK.due("then(-1, 2)", x.then(-1, 2), -4);
        CHECK.due("then(61, 2)", x.then(61, 2), -6);
        CHECK.due("then(60, 2)", x.then(60, 2), -2);
        CHECK.due("then(0, -1)", x.then(0, -1), -2);
        CHECK.due("depthThen(25, -1)", x.depthThen(25, -1), -1);
        CHECK.due("depthThen(-1, 0)", x.depthThen(-1, 0), -1);
        CHECK.due("depthThen(0, -1)", x.depthThen(0, -1), -4);
        CHECK.due("depthThen(0, 61)", x.depthThen(0, 61), -6);
        CHECK.due("count(11)", x.count(11), 4);
        CHECK.due("count(12)", x.count(12), 4);
        CHECK.due("count(14)", x.count(14), 3);
        CHECK.due("count(16)", x.count(16), 3);
    }

    private static void firsts(String text, int all, int none, int settled) {
        PicnicOfSomebody x = CHECK.told(text);
        x.then(60, 1);
        CHECK.due("ALL of " + text, x.first(0), all);
        CHECK.due("NONE of " + text, x.first(1), none);
        CHECK.due("SETTLED of " + text, x.first(2), settled);
        CHECK.due("ROUND of " + text, x.first(3), -9);
    }

    private static void firstOf(String text, int what, int want) {
        CHECK.due("first(" + what + ") of " + text, CHECK.told(text).first(what), want);
    }

    private static void firstYears() {
        firsts("pg0004;", -9, 0, 0);
        firsts("pg0009;", 0, -9, 0);
        firsts("pg0245;", 0, -9, 8);
        firsts("pd0122;", 3, 0, 7);
        firsts("ps0007;", 0, 3, 7);
        firsts("pc0009;pc0000;", -9, -9, -9);
        firsts("h2309;pd4091;pc1243;pg3233;", 23, 0, 27);
        firsts("h2109;ps4008;ps0039;pg2039;", 0, 16, 20);
        // These come to it late: behind 60 YEARS, behind 61 (too late), and NONE behind 22, the latest that was found.
        firstOf("h0409;po0040;po1140;po5240;pc0192;po0080;pg5133;pd7200;pc0172;", 0, 60);
        firstOf("h0409;po6040;po0140;po5240;pc5192;pg8080;pg9130;pd7200;pc3170;", 0, -9);
        firstOf("h0409;ps3191;pf0142;ps0209;ps6137;pd0022;pg3159;", 1, 21);
        firstOf("h1009;pg4122;ps2033;pg3202;pd0029;ps3203;ps4040;pg2247;pg4002;", 1, 22);
        firstOf("h2409;pf0140;pc8074;pg2180;po7030;pc1040;pd1000;pc6090;", 2, 60);
        firstOf("h2009;pf8000;pd3047;pg4114;pg3101;pg3201;pc1020;pf7200;", 2, -9);
        PicnicOfSomebody x = new PicnicOfSomebody();
        CHECK.due("ALL of nobody", x.first(0), 0);
        CHECK.due("NONE of nobody", x.first(1), 0);
        CHECK.due("SETTLED with nobody", x.first(2), 0);
        CHECK.due("ROUND with nobody", x.first(3), -9);
        CHECK.due("first(-1)", x.first(-1), -2);
        CHECK.due("first(4)", x.first(4), -2);
        CHECK.due("count(12)", x.count(12), 2);
    }

    private static void makes(String text, int n, int want) {
        CHECK.due("makes(" + n + ") of " + text, CHECK.told(text).makes(n), want);
    }

    private static void makers() {
        makes("pg0009;pg0245;", 0, 0);
        makes("ps0007;ps0042;ps0203;", 0, 6);
        makes("ps0007;", 2, 0);
        makes("ps0007;", 3, 1);
        makes("ps0007;", 4, 1);
        makes("ps0007;", 5, -9);
        makes("pg0004;pg0004;", 0, 3);
        makes("pg0004;pg0004;", 1, 1);
        makes("pg0000;pg0000;pg0000;", 0, 7);
        // He who comes nearer too early leaves the other behind: both at 9 do not do what the one does.
        makes("h0309;ps3206;pc4054;", 5, 1);
        makes("pg0000;".repeat(8), 0, 255);
        PicnicOfSomebody x = new PicnicOfSomebody();
        CHECK.due("makes(20) of nobody", x.makes(20), 0);
        CHECK.due("makes(-1)", x.makes(-1), -4);
        CHECK.due("makes(21)", x.makes(21), -6);
    }

    private static void leaves(String text, int n, int want) {
        CHECK.due("leaves(" + n + ") of " + text, CHECK.told(text).leaves(n), want);
    }

    private static void leavers() {
        leaves("pg0004;pg0002;", 0, 0);
        leaves("pg0009;pg0009;", 0, 3);
        leaves("pg0005;pg0004;", 0, 1);
        leaves("pg0004;pg0005;", 0, 2);
        leaves("ps0005;ps0005;", 1, 1);
        leaves("ps0005;ps0005;", 0, 3);
        leaves("pg0244;ps0000;pd0004;", 0, 0);
        leaves("pg0244;ps0000;pd0004;", 1, 0);
        leaves("pd0244;ps0000;pd0004;", 1, 1);
        PicnicOfSomebody x = new PicnicOfSomebody();
        CHECK.due("leaves(20) of nobody", x.leaves(20), 0);
        CHECK.due("leaves(-1)", x.leaves(-1), -4);
        CHECK.due("leaves(21)", x.leaves(21), -6);
        PicnicOfSomebody eight = CHECK.told("pg0009;".repeat(8));
        CHECK.due("all eight must leave", eight.leaves(20), 255);
        CHECK.due("nobody left", eight.count(0), 8);
    }

    private static void asked() {
        CHECK.due("the least of two", CHECK.told("pg0004;pg0004;").ask(0), 0);
        PicnicOfSomebody x = CHECK.told("ps0004;pg0244;pg0244;");
        CHECK.due("alone he makes one, as each", x.ask(0), 0);
        CHECK.due("of two together each makes two", x.ask(1), 1);
        CHECK.due("his BELIEF is as it was", x.person(1, 3), 4);
        CHECK.due("no more than else", CHECK.told("pg0009;pg0245;").ask(3), -9);
        CHECK.due("none can", CHECK.told("ps0004;").ask(60), -9);
        CHECK.due("the last of eight", CHECK.told("pg0009;".repeat(7) + "ps0244;").ask(0), 7);
        PicnicOfSomebody y = new PicnicOfSomebody();
        CHECK.due("ask of nobody", y.ask(60), -9);
        CHECK.due("ask(-1)", y.ask(-1), -4);
        CHECK.due("ask(61)", y.ask(61), -6);
    }

    private static void seats() {
        PicnicOfSomebody x = CHECK.told("h1205;pf1243;");
        CHECK.due("sit(0, 1, 0)", x.sit(0, 1, 0), 7);
        CHECK.due("sit(0, 1, 1)", x.sit(0, 1, 1), 4);
        CHECK.due("sit(0, 0, 0)", x.sit(0, 0, 0), 0);
        CHECK.due("sit(0, 0, 1)", x.sit(0, 0, 1), 3);
        CHECK.due("sit(0, 20, 1)", x.sit(0, 20, 1), 9);
        CHECK.due("he sits where he sat", x.person(0, 2), 24);
        PicnicOfSomebody y = CHECK.told("pg0049;pc0200;");
        CHECK.due("a child beside a BELIEVER, of several the least", y.sit(1, 1, 0), 2);
        CHECK.due("his BELIEF", y.sit(1, 1, 1), 9);
        CHECK.due("a guest away from a doubter", CHECK.told("pg0125;ps0000;").sit(0, 1, 0), 3);
        CHECK.due("sit(1, -1, 2)", x.sit(1, -1, 2), -1);
        CHECK.due("sit(-1, 0, 0)", x.sit(-1, 0, 0), -1);
        CHECK.due("sit(0, -1, 2)", x.sit(0, -1, 2), -4);
        CHECK.due("sit(0, 21, 2)", x.sit(0, 21, 2), -6);
        CHECK.due("sit(0, 20, 2)", x.sit(0, 20, 2), -2);
        CHECK.due("sit(0, 0, -1)", x.sit(0, 0, -1), -2);
    }

    private static void doubters() {
        PicnicOfSomebody x = CHECK.told("pg0249;pg0205;pd0005;");
        CHECK.due("doubt(0)", x.doubt(0), 0);
        CHECK.due("doubt(1)", x.doubt(1), 1);
        CHECK.due("doubt(4)", x.doubt(4), 2);
        CHECK.due("his KIND is as it was", x.person(1, 0), 0);
        CHECK.due("a DOUBTER may be the one", CHECK.told("ps0004;").doubt(60), 0);
        CHECK.due("all eight BELIEVE", CHECK.told("pg0009;".repeat(8)).doubt(0), 0);
        CHECK.due("the last of eight", CHECK.told("pd0249;".repeat(7) + "pg0005;").doubt(1), 7);
        PicnicOfSomebody y = new PicnicOfSomebody();
        CHECK.due("doubt of nobody", y.doubt(60), -9);
        CHECK.due("doubt(-1)", y.doubt(-1), -4);
        CHECK.due("doubt(61)", y.doubt(61), -6);
    }

    private static void strangers() {
        PicnicOfSomebody x = CHECK.told("pg0244;");
        CHECK.due("stranger(0)", x.stranger(0), 0);
        CHECK.due("stranger(1)", x.stranger(1), 1);
        CHECK.due("he is not there", x.count(0), 1);
        CHECK.due("too far", CHECK.told("pg0114;").stranger(1), 0);
        CHECK.due("two STEPS", CHECK.told("pg0144;").stranger(1), 1);
        CHECK.due("one fewer", CHECK.told("h2009;po2202;pd4228;ps4017;").stranger(11), -1);
        CHECK.due("four fewer", CHECK.told("h1309;pc2120;ps2012;pg0122;pg4072;pd1160;").stranger(19), -4);
        CHECK.due("no room", CHECK.told("pg0000;".repeat(8)).stranger(0), -9);
        CHECK.due("room for one", CHECK.told("pg0244;".repeat(7)).stranger(1), 0);
        CHECK.due("with nobody", new PicnicOfSomebody().stranger(60), 0);
        PicnicOfSomebody full = CHECK.told("pg0000;".repeat(8));
        CHECK.due("stranger(-1)", full.stranger(-1), 1000000004);
        CHECK.due("stranger(61)", full.stranger(61), 1000000006);
        CHECK.due("count(14)", full.count(14), 1);
        CHECK.due("count(16)", full.count(16), 1);
    }

    private static void things() {
        PicnicOfSomebody x = CHECK.told("ps7006;pg3245;pg9204;");
        int[] due = {0, 10, 20, 23, 26};
        for (int n = 0; n < due.length; n++) {
            CHECK.due("passed(" + n + ")", x.passed(n), due[n]);
        }
        PicnicOfSomebody y = CHECK.told("ps7006;");
        CHECK.due("passed(60)", y.passed(60), 14);
        CHECK.due("passed by eight", CHECK.told("pg1009;".repeat(8)).passed(2), 16);
        CHECK.due("passed by nobody", new PicnicOfSomebody().passed(60), 0);
        CHECK.due("passed(-1)", y.passed(-1), -4);
        CHECK.due("passed(61)", y.passed(61), -6);
    }

    public static void main(String[] args) {
        laterThings();
        laterThanTheLastYear();
        laterRefused();
        firstYears();
        makers();
        leavers();
        asked();
        seats();
        doubters();
        strangers();
        things();
        CHECK.end();
    }
}
