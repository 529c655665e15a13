/** Many runs of calls by lot, each answer held against the slow model of the document. */
public final class ModelTest {
    private static long seed;

    private static int below(int m) {
        seed = seed * 6364136223846793005L + 1442695040888963407L;
        return (int) ((seed >>> 33) % m);
    }

    /** A number that is mostly fit, at times an edge or beyond it. */
    private static int near(int least, int most) {
        switch (below(24)) {
            case 0: return least - 1;
            case 1: return most + 1;
            case 2: return most;
            case 3: return least;
            case 4: return below(2) == 0 ? Integer.MIN_VALUE : Integer.MAX_VALUE;
            default: return least + below(most - least + 1);
        }
    }

    private static String two(int v) {
        return v < 10 ? "0" + v : "" + v;
    }

    private static String statement() {
        int out = below(40) == 0 ? 1 : 0;
        switch (below(9)) {
            case 0: return "h" + two(below(25 + out * 10)) + two(below(100)) + ";";
            case 1: return "b" + below(3 + out * 6) + below(10) + ";";
            case 2: return "a" + below(3 + out * 6) + two(below(25 + out * 10)) + ";";
            case 3: return "y" + two(below(8 + out * 80)) + ";";
            default: return "p" + "gfcsod".charAt(below(6)) + below(10) + two(below(25 + out * 10)) + below(10) + ";";
        }
    }

    private static String text() {
        StringBuilder t = new StringBuilder();
        int many = 1 + below(5);
        for (int i = 0; i < many; i++) {
            t.append(statement());
        }
        if (below(6) == 0) {
            t.setCharAt(below(t.length()), "pghabycsodf;0129x".charAt(below(17)));
        }
        if (below(12) == 0) {
            t.setLength(below(t.length() + 1));
        }
        return t.toString();
    }

    private static final String[] SPARSE = {"makes", "leaves", "ask", "sit", "doubt", "stranger", "wind", "two", "lots"};
    private static final String[] PLAIN = {"depth", "person", "place", "digs", "believes", "sits", "turn", "years",
        "behind", "then", "depthThen", "first", "nearest", "passed", "heard", "groups", "middle", "mean", "whatIs", "who",
        "row", "judge", "clear", "image", "on", "count"};

    private static int[] given(String name) {
        int p = near(0, 7);
        switch (name) {
            case "depth": return new int[] {near(0, 24)};
            case "person": return new int[] {p, near(0, 6)};
            case "digs": return new int[] {near(0, 24), near(0, 99)};
            case "believes": return new int[] {p, near(0, 9)};
            case "sits": return new int[] {p, near(0, 24)};
            case "turn": return new int[] {p, near(0, 5), near(0, 9)};
            case "years": return new int[] {below(3) == 0 ? near(1, 60) : 1 + below(4)};
            case "behind": return new int[] {p, near(0, 60), near(0, 1)};
            case "then": return new int[] {near(0, 60), near(0, 1)};
            case "depthThen": return new int[] {near(0, 24), near(0, 60)};
            case "first": return new int[] {near(0, 3)};
            case "makes":
            case "leaves": return new int[] {below(3) == 0 ? near(0, 20) : below(6)};
            case "ask":
            case "doubt":
            case "passed":
            case "stranger": return new int[] {below(3) == 0 ? near(0, 60) : below(9)};
            case "sit": return new int[] {p, below(3) == 0 ? near(0, 20) : below(6), near(0, 1)};
            case "heard": return new int[] {p};
            case "groups":
            case "middle":
            case "mean": return new int[] {near(0, 1)};
            case "wind": return new int[] {near(0, 7), near(2, 20), near(0, 1)};
            case "two": return new int[] {p, near(0, 7), below(3) == 0 ? near(0, 60) : below(9)};
            case "whatIs": return new int[] {p, near(0, 1)};
            case "row": return new int[] {near(0, 99)};
            case "lots": return new int[] {near(1, 20), below(4) == 0 ? near(0, 9) : (int) seed, near(0, 1)};
            case "count": return new int[] {near(0, 17)};
            default: return new int[0];
        }
    }

    private static int calls;

    private static long both(PicnicOfSomebody x, Model model, String name, int... given) {
        long want = model.call(name, given);
        long got = Call.answer(x, name, given);
        calls++;
        if (got != want) {
            System.out.println(Call.told(name, given) + " answered " + got + ", the model " + want);
            System.exit(1);
        }
        return got;
    }

    private static void tell(PicnicOfSomebody x, Model model, String text) {
        for (int i = 0; i < text.length(); i++) {
            both(x, model, "letter", text.charAt(i));
        }
        if (below(20) != 0) {
            both(x, model, "slope");
        }
    }

    /** A ROW that is mostly so, told of the one, of all, or of HERE. */
    private static void tellRow(PicnicOfSomebody x, Model model) {
        both(x, model, "clear");
        int about = below(3);
        int person = below(8);
        int many = below(6) == 0 ? 16 : below(6);
        for (int k = 0; k < many; k++) {
            long v = about == 0 ? both(x, model, "behind", person, k, 0) : both(x, model, "then", k, about - 1);
            both(x, model, "row", below(30) == 0 ? near(0, 99) : (int) v);
        }
        for (int i = 0; i < 8; i++) {
            both(x, model, "whatIs", i, below(2));
        }
        both(x, model, "who");
        both(x, model, below(2) == 0 ? "judge" : "clear");
    }

    private static void run() {
        PicnicOfSomebody x = new PicnicOfSomebody();
        Model model = new Model();
        int end = calls + 380;
        while (calls < end) {
            int turn = below(60);
            if (turn < 4) {
                tell(x, model, text());
            } else if (turn == 4) {
                both(x, model, "letter", near(0, 255));
            } else if (turn < 7) {
                tellRow(x, model);
            } else {
                String name = turn == 7 ? SPARSE[below(SPARSE.length)] : PLAIN[below(PLAIN.length)];
                both(x, model, name, given(name));
            }
        }
        for (String name : SPARSE) {
            both(x, model, name, given(name));
        }
    }

    public static void main(String[] args) {
        if (args.length == 0) {
            Check.endsInTime();
        }
        int runs = args.length > 0 ? Integer.parseInt(args[0]) : 120;
        for (int k = 0; k < runs; k++) {
            seed = 1000003L * k + 17 + (args.length > 1 ? Long.parseLong(args[1]) : 0);
            run();
        }
        System.out.println(calls + " answers are the model's");
    }
}
