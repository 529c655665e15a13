/** Counts the answers that are not as due, and feeds whole texts to an object. */
final class Check {
    private static final long MOST_SECONDS = 300;
    private int asked = 0;
    private int wrong = 0;

    Check() {
        endsInTime();
    }

    /** A call that does not end is a fault as well: the test then fails instead of standing still. */
    static void endsInTime() {
        Thread watch = new Thread(() -> {
            try {
                Thread.sleep(1000 * MOST_SECONDS);
                System.out.println("the test has not ended in " + MOST_SECONDS + " seconds");
                Runtime.getRuntime().halt(1);
            } catch (InterruptedException e) {
                Thread.currentThread().interrupt();
            }
        });
        watch.setDaemon(true);
        watch.start();
    }

    void due(String call, long got, long want) {
        asked++;
        if (got != want) {
            wrong++;
            System.out.println(call + " answered " + got + ", due is " + want);
        }
    }

    /** Asks a call by its name. */
    void answers(long want, PicnicOfSomebody x, String name, int... given) {
        due(Call.told(name, given), Call.answer(x, name, given), want);
    }

    void holds(String what, boolean so) {
        asked++;
        if (!so) {
            wrong++;
            System.out.println("does not hold: " + what);
        }
    }

    /** An object of which the slope is told by a text without FAULT. */
    PicnicOfSomebody told(String text) {
        PicnicOfSomebody x = new PicnicOfSomebody();
        int answer = read(x, text);
        holds("the text " + text + " is a SLOPE (" + answer + ")", answer > 0);
        return x;
    }

    /** What slope() answers behind the letters of a text. */
    static int read(PicnicOfSomebody x, String text) {
        letters(x, text);
        return x.slope();
    }

    static void letters(PicnicOfSomebody x, String text) {
        for (int i = 0; i < text.length(); i++) {
            x.letter(text.charAt(i));
        }
    }

    static void row(PicnicOfSomebody x, int... numbers) {
        x.clear();
        for (int number : numbers) {
            x.row(number);
        }
    }

    void end() {
        System.out.println(wrong == 0 ? "all " + asked + " answers are as due" : wrong + " answers are not as due");
        if (wrong != 0) {
            System.exit(1);
        }
    }
}
