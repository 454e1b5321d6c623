import java.util.NoSuchElementException;

/** Counts the answers that are not the due ones, and tells programs as texts. */
final class Check {
    private static final long MOST_MILLISECONDS = 600_000;

    private final String about;
    private int checked = 0;
    private int wrong = 0;

    Check(String about) {
        this.about = about;
        Thread guard = new Thread(this::failIfItNeverEnds);
        guard.setDaemon(true);
        guard.start();
    }

    /** A call that doesn't end must not hold up .ci/run for ever. */
    private void failIfItNeverEnds() {
        try {
            Thread.sleep(MOST_MILLISECONDS);
        } catch (InterruptedException e) {
            return;
        }
        System.out.println(about + ": it doesn't end");
        Runtime.getRuntime().halt(1);
    }

    void due(String what, long got, long want) {
        checked++;
        if (got != want) {
            wrong++;
            if (wrong <= 40) {
                System.out.println(about + ": " + what + " answered " + got + ", due is " + want);
            }
        }
    }

    void due(String what, boolean got, boolean want) {
        due(what, got ? 1 : 0, want ? 1 : 0);
    }

    /** Checks that the call before was refused, and by which number. */
    void refused(BurntWays x, String what, long got, int number) {
        due(what, got, BurntWays.NONE);
        due(what + ", trouble()", x.trouble(), number);
    }

    void granted(BurntWays x, String what, long got, long want) {
        due(what, got, want);
        due(what + ", trouble()", x.trouble(), 0);
    }

    void refused(BurntWays x, String what, boolean got, int number) {
        due(what, got, false);
        due(what + ", trouble()", x.trouble(), number);
    }

    void granted(BurntWays x, String what, boolean got) {
        due(what, got, true);
        due(what + ", trouble()", x.trouble(), 0);
    }

    /** A text that is refused with this fault at this place. */
    void faulty(String text, int fault, int place) {
        BurntWays x = new BurntWays();
        refused(x, text, tell(x, text), 4);
        due(text + ": fault()", x.fault(), fault);
        due(text + ": where()", x.where(), place);
    }

    /** A text that is a program of so many lines. */
    BurntWays fine(String text, int lines) {
        BurntWays x = new BurntWays();
        granted(x, text, tell(x, text), lines);
        due(text + ": fault()", x.fault(), 0);
        due(text + ": where()", x.where(), -1);
        return x;
    }

    boolean isWrong() {
        return wrong > 0;
    }

    void end() {
        System.out.println(about + ": " + checked + " answers, " + wrong + " wrong");
        if (wrong > 0) {
            System.exit(1);
        }
    }

    /** Puts a text on the tape, blanks behind it. */
    static void feed(BurntWays x, String text) {
        int[] five = new int[5];
        for (int from = 0; from < text.length(); from += 20) {
            for (int i = 0; i < 5; i++) {
                five[i] = 0;
                for (int j = 0; j < 4; j++) {
                    int at = from + 4 * i + j;
                    five[i] = five[i] << 8 | (at < text.length() ? text.charAt(at) & 255 : ' ');
                }
            }
            x.feed(five[0], five[1], five[2], five[3], five[4]);
        }
    }

    static int tell(BurntWays x, String text) {
        feed(x, text);
        return x.program(text.length());
    }

    static BurntWays told(String text) {
        BurntWays x = new BurntWays();
        if (tell(x, text) < 0) {
            throw new IllegalStateException("fault " + x.fault() + " at " + x.where() + " of " + text);
        }
        return x;
    }

    /** What led() answers; -9 if it throws. */
    static int led(BurntWays x, int i) {
        try {
            return x.led(i);
        } catch (NoSuchElementException e) {
            return -9;
        }
    }
}
