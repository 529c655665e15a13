import java.util.ArrayList;
import java.util.List;
import java.util.function.Supplier;

/** Two objects of one past, of which one is asked: what the call must leave as it was, both tell alike. */
final class Twins {
    private final Check check;
    private final String state;
    private final Supplier<PicnicOfSomebody> maker;

    Twins(Check check, String state, Supplier<PicnicOfSomebody> maker) {
        this.check = check;
        this.state = state;
        this.maker = maker;
    }

    static Twins nobody(Check check) {
        return new Twins(check, "nobody", PicnicOfSomebody::new);
    }

    /** A GUEST HERE in CELL 12, a DOUBTER in 0, an OLD one in 19; the ROW, letters and THE IMAGE are there too. */
    static Twins three(Check check) {
        return new Twins(check, "three", () -> {
            PicnicOfSomebody x = check.told("pg3127;ps0000;po9249;h1210;h2402;");
            x.image();
            x.years(1);
            return withRowAndLetters(x);
        });
    }

    static Twins eight(Check check) {
        return new Twins(check, "eight", () -> {
            PicnicOfSomebody x = check.told("pg3127;pf2013;pc3204;ps4056;po5237;pd6248;pg0009;pg9244;h1210;");
            x.image();
            x.digs(24, 9);
            return withRowAndLetters(x);
        });
    }

    /** YEAR is 999. */
    static Twins late(Check check) {
        return new Twins(check, "late", () -> withRowAndLetters(lateWith(check, "pg3127;ps0000;po9249;h1210;")));
    }

    static Twins fullText(Check check) {
        return new Twins(check, "96 letters", () -> {
            PicnicOfSomebody x = check.told("pg3127;ps0000;h1210;");
            x.image();
            x.row(12);
            Check.letters(x, "b03;a111;h0199;".repeat(6) + "h2401;");
            return x;
        });
    }

    static Twins fullRow(Check check) {
        return new Twins(check, "a ROW of 16", () -> {
            PicnicOfSomebody x = check.told("pg3127;ps0000;h1210;");
            Check.row(x, 12, 12, 12, 12, 12, 12, 12, 12, 12, 12, 12, 12, 12, 12, 12, 12);
            return x;
        });
    }

    /** What a text tells, in YEAR 999: till then nobody had come. */
    static PicnicOfSomebody lateWith(Check check, String text) {
        PicnicOfSomebody x = new PicnicOfSomebody();
        for (int k = 0; k < 16; k++) {
            x.years(60);
        }
        x.years(39);
        check.due("YEAR", x.count(1), 999);
        check.holds("the text " + text + " is a SLOPE", Check.read(x, text) > 0);
        return x;
    }

    private static PicnicOfSomebody withRowAndLetters(PicnicOfSomebody x) {
        Check.row(x, 12, 12);
        Check.letters(x, "h0105;");
        return x;
    }

    /** The call is refused with a number, which is counted once, and changes nothing else. */
    void refuses(int number, String name, int... given) {
        asked(Call.refusal(name, number), number, name, given);
    }

    /** The call answers, and neither changes nor counts anything. */
    void keeps(long want, String name, int... given) {
        asked(want, 0, name, given);
    }

    private void asked(long want, int refusal, String name, int... given) {
        PicnicOfSomebody one = maker.get();
        PicnicOfSomebody other = maker.get();
        String call = state + ": " + Call.told(name, given);
        check.due(call, Call.answer(one, name, given), want);
        for (int k = 1; k <= 6; k++) {
            check.due("REFUSALS -" + k + " behind " + call, one.count(10 + k), other.count(10 + k) + (k == -refusal ? 1 : 0));
        }
        alike(check, call, one, other);
    }

    /** All that can be seen of both is the same, but for how many REFUSALS there were. Both are used up then. */
    static void alike(Check check, String call, PicnicOfSomebody one, PicnicOfSomebody other) {
        List<Integer> is = all(one);
        List<Integer> due = all(other);
        check.holds("all is as it was behind " + call + ": " + is + " should be " + due, is.equals(due));
    }

    /** Some 290 calls: the ROW is judged, the letters become a SLOPE, and then it goes ON from THE IMAGE. */
    private static List<Integer> all(PicnicOfSomebody x) {
        List<Integer> seen = new ArrayList<>();
        seeNow(x, seen);
        seen.add(x.who());
        for (int i = 0; i < x.count(0); i++) {
            seen.add(x.whatIs(i, 0));
            seen.add(x.whatIs(i, 1));
        }
        seen.add(x.judge());
        seen.add(x.slope());
        seeNow(x, seen);
        seen.add(x.on());
        seeNow(x, seen);
        return seen;
    }

    private static void seeNow(PicnicOfSomebody x, List<Integer> seen) {
        for (int what = 0; what <= 7; what++) {
            seen.add(x.count(what));
        }
        for (int cell = 0; cell < 25; cell++) {
            seen.add(x.depth(cell));
        }
        for (int i = 0; i < x.count(0); i++) {
            for (int what = 0; what <= 3; what++) {
                seen.add(x.person(i, what));
            }
        }
    }
}
