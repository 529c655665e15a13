/** Promises 22, 24 to 29 and 35: who is together, odds, two who choose, lots. */
public final class CompanyTest {
    private static final Check CHECK = new Check();

    private static void nearest() {
        PicnicOfSomebody x = CHECK.told("h1205;pg0000;pg0140;pg0130;pg0110;");
        CHECK.due("nearest()", x.nearest(), 2);
        x.sits(2, 24);
        CHECK.due("nearest() else", x.nearest(), 3);
        x.digs(0, 5);
        CHECK.due("nearest() to another HERE", x.nearest(), 0);
        CHECK.due("eight STEPS off", CHECK.told("pg0240;").nearest(), 0);
        CHECK.due("nobody", new PicnicOfSomebody().nearest(), -9);
    }

    private static void chains() {
        PicnicOfSomebody x = CHECK.told("pg0040;pg0000;pg0240;pg0020;");
        CHECK.due("heard(0)", x.heard(0), 11);
        CHECK.due("heard(1)", x.heard(1), 11);
        CHECK.due("heard(2)", x.heard(2), 4);
        CHECK.due("heard(3)", x.heard(3), 11);
        CHECK.due("groups(0)", x.groups(0), 2);
        CHECK.due("groups(1)", x.groups(1), 3);
        CHECK.due("heard(4)", x.heard(4), -1);
        CHECK.due("heard(-1)", x.heard(-1), -1);
        CHECK.due("groups(2)", x.groups(2), -2);
        CHECK.due("groups(-1)", x.groups(-1), -2);
        PicnicOfSomebody back = CHECK.told("pg0240;pg0220;pg0200;pg0100;pg0000;pg0020;pg0040;pg0140;");
        CHECK.due("a chain of eight, told from its end", back.heard(0), 255);
        CHECK.due("and from the other", back.heard(7), 255);
        CHECK.due("one group", back.groups(0), 1);
        CHECK.due("of eight", back.groups(1), 8);
        PicnicOfSomebody round = CHECK.told("pg0000;pg0240;pg0040;pg0200;pg0120;");
        CHECK.due("five alone", round.groups(0), 5);
        CHECK.due("one each", round.groups(1), 1);
        CHECK.due("one alone", CHECK.told("pg0000;").groups(1), 1);
        CHECK.due("no group", new PicnicOfSomebody().groups(0), 0);
        CHECK.due("of none", new PicnicOfSomebody().groups(1), 0);
    }

    private static void middles() {
        PicnicOfSomebody x = CHECK.told("pg0060;pg0080;pg0180;");
        CHECK.due("middle(0)", x.middle(0), 8);
        CHECK.due("middle(1)", x.middle(1), 4);
        CHECK.due("middle(2)", x.middle(2), -2);
        CHECK.due("middle(-1)", x.middle(-1), -2);
        PicnicOfSomebody y = CHECK.told("pg0240;pg0060;");
        CHECK.due("of several the least", y.middle(0), 6);
        CHECK.due("those STEPS", y.middle(1), 6);
        CHECK.due("one in the last CELL", CHECK.told("pg0240;").middle(0), 24);
        CHECK.due("one in the second CELL", CHECK.told("pg0010;").middle(0), 1);
        CHECK.due("with nobody", new PicnicOfSomebody().middle(0), 0);
        CHECK.due("no STEPS", new PicnicOfSomebody().middle(1), 0);
    }

    private static void wind(String text, int n, int t, int above, int below) {
        PicnicOfSomebody x = CHECK.told(text);
        CHECK.due("wind(" + n + ", " + t + ", 0) of " + text, x.wind(n, t, 0), above);
        CHECK.due("wind(" + n + ", " + t + ", 1) of " + text, x.wind(n, t, 1), below);
    }

    private static void winds() {
        wind("pd0004;", 0, 2, 0, 1);
        wind("pd0004;", 1, 2, 1, 1);
        wind("pd0004;", 7, 20, 1, 1);
        wind("ps0007;", 2, 20, 1, 1);
        wind("ps0007;", 3, 20, 0, 1);
        wind("h1203;h0703;pf2245;ps1219;", 7, 19, 1, 1);
        PicnicOfSomebody x = new PicnicOfSomebody();
        CHECK.due("wind of nobody", x.wind(7, 20, 0), 1);
        CHECK.due("wind of nobody", x.wind(7, 20, 1), 1);
        long refused = 4000000000000000000L;
        CHECK.due("wind(-1, 21, 2)", x.wind(-1, 21, 2), refused + 4);
        CHECK.due("wind(8, 1, 2)", x.wind(8, 1, 2), refused + 4);
        CHECK.due("wind(0, 1, 0)", x.wind(0, 1, 0), refused + 4);
        CHECK.due("wind(8, 20, 2)", x.wind(8, 20, 2), refused + 6);
        CHECK.due("wind(7, 21, 2)", x.wind(7, 21, 2), refused + 6);
        CHECK.due("wind(0, 2, 2)", x.wind(0, 2, 2), refused + 2);
        CHECK.due("wind(0, 2, -1)", x.wind(0, 2, -1), refused + 2);
        CHECK.due("count(14)", x.count(14), 3);
        CHECK.due("count(16)", x.count(16), 2);
        CHECK.due("count(12)", x.count(12), 2);
    }

    private static void mean(String text, int above, int below) {
        PicnicOfSomebody x = CHECK.told(text);
        CHECK.due("mean(0) of " + text, x.mean(0), above);
        CHECK.due("mean(1) of " + text, x.mean(1), below);
    }

    private static void means() {
        mean("pg0001;pg0002;pg0003;", 2, 1);
        mean("pg0009;pg0006;", 15, 2);
        mean("pg0009;pg0006;pg0001;pg0002;", 9, 2);
        mean("pg0002;pg0000;pg0000;pg0000;", 1, 2);
        mean("pg0000;pg0000;", 0, 1);
        PicnicOfSomebody x = new PicnicOfSomebody();
        CHECK.due("mean(0) of nobody", x.mean(0), 0);
        CHECK.due("mean(1) of nobody", x.mean(1), 1);
        CHECK.due("mean(2)", x.mean(2), 4000000000000000002L);
        CHECK.due("mean(-1)", x.mean(-1), 4000000000000000002L);
        CHECK.due("count(12)", x.count(12), 2);
    }

    private static void pairs() {
        PicnicOfSomebody x = CHECK.told("pg0004;pg0005;");
        CHECK.due("two(0, 1, 0)", x.two(0, 1, 0), 10);
        CHECK.due("two(1, 0, 0)", x.two(1, 0, 0), 10);
        CHECK.due("two(0, 1, 1)", x.two(0, 1, 1), 10);
        CHECK.due("BELIEF is as it was", x.count(3), 9);
        CHECK.due("it is all one", CHECK.told("ps0004;ps0245;").two(0, 1, 60), 0);
        CHECK.due("neither", CHECK.told("h1909;pc0137;pf4173;").two(0, 1, 1), 0);
        CHECK.due("the other alone", CHECK.told("h2109;ps0043;pd4192;").two(0, 1, 5), 1);
        CHECK.due("both", CHECK.told("h0309;ps3206;pc4054;").two(0, 1, 5), 11);
        CHECK.due("no pair", CHECK.told("h1809;pd0102;ps0149;").two(0, 1, 7), -9);
        CHECK.due("two(0, 0, -1)", x.two(0, 0, -1), -1);
        CHECK.due("two(2, 0, 0)", x.two(2, 0, 0), -1);
        CHECK.due("two(0, 2, 0)", x.two(0, 2, 0), -1);
        CHECK.due("two(-1, 0, 0)", x.two(-1, 0, 0), -1);
        CHECK.due("two(0, -1, 0)", x.two(0, -1, 0), -1);
        CHECK.due("two(0, 1, -1)", x.two(0, 1, -1), -4);
        CHECK.due("two(0, 1, 61)", x.two(0, 1, 61), -6);
        CHECK.due("count(11)", x.count(11), 5);
    }

    /** A guest alone keeps the BELIEF that the lot gives him, which is the second of each two DRAWS. */
    private static void lotsOfAGuest(int n, int seed) {
        PicnicOfSomebody x = CHECK.told("pg0003;");
        int z = seed;
        int believing = 0;
        int all = 0;
        for (int k = 0; k < 2 * n; k++) {
            z = (int) (z * 1664525L + 1013904223L);
            int belief = (z < 0 ? z - Integer.MIN_VALUE : z) / 256 % 10;
            if (k % 2 == 1) {
                believing += belief >= 5 ? 1 : 0;
                all += belief;
            }
        }
        CHECK.due("lots(" + n + ", " + seed + ", 0)", x.lots(n, seed, 0), believing);
        CHECK.due("lots(" + n + ", " + seed + ", 1)", x.lots(n, seed, 1), all);
        CHECK.due("all is as it was", x.person(0, 3), 3);
    }

    private static int drawn(int z, int below) {
        return (z < 0 ? z - Integer.MIN_VALUE : z) / 256 % below;
    }

    /** Sets the seven as the lots from z on have them, and tells the z behind these DRAWS. */
    private static int setByLot(PicnicOfSomebody x, int seed) {
        int z = seed;
        for (int i = 0; i < x.count(0); i++) {
            z = z * 1664525 + 1013904223;
            x.sits(i, drawn(z, 25));
            z = z * 1664525 + 1013904223;
            x.believes(i, drawn(z, 10));
        }
        return z;
    }

    private static int allBeliefBehindTen(PicnicOfSomebody x) {
        int sum = 0;
        for (int i = 0; i < x.count(0); i++) {
            sum += x.behind(i, 10, 0);
        }
        return sum;
    }

    /** Each lot is the same as people set so by hand, ten YEARS on; HERE is another than the text had. */
    private static void lotsByHand(int seed) {
        String text = "pg0126;pf3078;pc4111;ps2135;po9175;pd0249;pg5009;h1240;h0305;";
        PicnicOfSomebody x = CHECK.told(text);
        PicnicOfSomebody byHand = CHECK.told(text);
        x.digs(20, 77);
        byHand.digs(20, 77);
        int z = seed;
        int believing = 0;
        int all = 0;
        for (int n = 1; n <= 3; n++) {
            z = setByLot(byHand, z);
            believing += byHand.then(10, 1);
            all += allBeliefBehindTen(byHand);
            CHECK.due("lots(" + n + ", " + seed + ", 0)", x.lots(n, seed, 0), believing);
            CHECK.due("lots(" + n + ", " + seed + ", 1)", x.lots(n, seed, 1), all);
        }
    }

    private static void lots() {
        for (int seed = -10; seed < 10; seed++) {
            lotsByHand(seed * 77777777);
        }
        for (int seed : new int[] {0, 1, -1, 7, 123456789, -987654321, Integer.MAX_VALUE, Integer.MIN_VALUE}) {
            lotsOfAGuest(1, seed);
            lotsOfAGuest(20, seed);
        }
        CHECK.due("a dog comes to 9 in ten YEARS", CHECK.told("pd0000;").lots(20, 5, 1), 180);
        CHECK.due("a doubter to 0", CHECK.told("ps0009;").lots(20, 5, 1), 0);
        PicnicOfSomebody seven = CHECK.told("pg0126;pf3078;pc4111;ps2135;po9175;pd0249;pg5009;h1240;h0305;");
        CHECK.due("seven", seven.lots(5, 7, 0), 33);
        CHECK.due("all of seven", seven.lots(5, 7, 1), 289);
        PicnicOfSomebody x = new PicnicOfSomebody();
        CHECK.due("nobody", x.lots(20, 9, 1), 0);
        CHECK.due("lots(0, 0, 2)", x.lots(0, 0, 2), -4);
        CHECK.due("lots(21, 0, 2)", x.lots(21, 0, 2), -6);
        CHECK.due("lots(1, 0, 2)", x.lots(1, 0, 2), -2);
        CHECK.due("lots(20, 0, -1)", x.lots(20, 0, -1), -2);
    }

    public static void main(String[] args) {
        nearest();
        chains();
        middles();
        winds();
        means();
        pairs();
        lots();
        CHECK.end();
    }
}
