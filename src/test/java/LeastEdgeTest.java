/** The edges that the document names of the LEAST programs: promises 40 and 41. */
public final class LeastEdgeTest {
    private static final String[] ACTS = {"", "do up a ", "do down a ", "do down b "};
    private static final String[] NAMES = {"p", "q", "r"};

    private final Check check = new Check("LeastEdgeTest");
    private String told = "";

    public static void main(String[] args) {
        LeastEdgeTest test = new LeastEdgeTest();
        test.boundsOfW();
        test.inOrderOfRefusals();
        test.boundsOfLines();
        test.oneLine();
        test.aAtZero();
        test.twoLines();
        test.threeLines();
        test.threeDontDo();
        test.waysLaidAsOften();
        test.bothWaysOfALine();
        test.bAtZero();
        test.byEndAlone();
        test.sixWants();
        test.countersThatDontCount();
        test.firstOfAll();
        test.leastStays();
        test.leastOfAnotherProgram();
        test.check.end();
    }

    /** A program without lines told, and these wants: of each a, b, and what is wanted. */
    private static String wants(int... numbers) {
        StringBuilder s = new StringBuilder("program p,q,r");
        for (int i = 0; i < numbers.length; i += 3) {
            s.append(";want ").append(numbers[i]).append(",").append(numbers[i + 1]).append(",0,0 is ").append(numbers[i + 2]);
        }
        return s.toString();
    }

    /** The least program has these lines, and told as a text it does answer what is wanted. */
    private void leastIs(BurntWays x, int w, int... due) {
        int n = due.length;
        check.granted(x, "least(" + w + ")", x.least(w), n);
        StringBuilder text = new StringBuilder();
        for (int line = 0; line < n; line++) {
            check.granted(x, "leastLine(" + w + ", " + line + ")", x.leastLine(w, line), due[line]);
            text.append(";line ").append(NAMES[line]).append(" ").append(asText(n, due[line], w));
        }
        check.refused(x, "leastLine(" + w + ", " + n + ")", x.leastLine(w, n), 1);
        wantsAreMet(x, text.toString());
    }

    private static String asText(int n, int number, int w) {
        int goals = 1 + n + n * n;
        int goal = number % goals;
        String text = ACTS[number / goals] + "then ";
        if (goal == 0) {
            return text + "end";
        }
        if (goal <= n) {
            return text + "to " + NAMES[goal - 1] + " by " + w;
        }
        int both = goal - 1 - n;
        return text + "if b to " + NAMES[both / n] + " by " + w + " else " + NAMES[both % n] + " by " + w;
    }

    private void wantsAreMet(BurntWays x, String lines) {
        BurntWays other = Check.told(told + lines);
        check.granted(other, told + lines, other.wanted(), (1 << x.size(3)) - 1);
    }

    private BurntWays wanting(int... numbers) {
        told = wants(numbers);
        return Check.told(told);
    }

    // ---- refusals

    private void boundsOfW() {
        BurntWays x = wanting(3, 0, 4);
        for (int w = 1; w <= 9; w++) {
            leastIs(x, w, 3);
        }
        int[] wrong = {0, 10, -1, Integer.MIN_VALUE, Integer.MAX_VALUE};
        for (int w : wrong) {
            check.refused(x, "least(" + w + ")", x.least(w), 2);
            check.refused(x, "leastLine(" + w + ", 0)", x.leastLine(w, 0), 2);
        }
    }

    private void inOrderOfRefusals() {
        BurntWays x = new BurntWays();
        int[] numbers = {0, 1, 9, 10};
        for (int w : numbers) {
            check.refused(x, "least(" + w + ") without a PROGRAM", x.least(w), 1);
            check.refused(x, "leastLine(" + w + ", 0) without a PROGRAM", x.leastLine(w, 0), 1);
        }
        x = Check.told("program p;line p then end");
        check.refused(x, "least(1) without wants", x.least(1), 6);
        check.refused(x, "least(9) without wants", x.least(9), 6);
        check.refused(x, "least(0) without wants", x.least(0), 2);
        check.refused(x, "least(10) without wants", x.least(10), 2);
        check.refused(x, "leastLine(1, 0) without wants", x.leastLine(1, 0), 6);
        check.refused(x, "leastLine(9, 2) without wants", x.leastLine(9, 2), 6);
        check.refused(x, "leastLine(0, 0) without wants", x.leastLine(0, 0), 2);
        check.refused(x, "leastLine(10, 0) without wants", x.leastLine(10, 0), 2);
        check.refused(x, "leastLine(0, -1) without wants", x.leastLine(0, -1), 1);
        check.refused(x, "leastLine(10, 3) without wants", x.leastLine(10, 3), 1);
    }

    private void boundsOfLines() {
        BurntWays x = wanting(0, 0, 3);
        int[] wrong = {-1, 3, 10, Integer.MIN_VALUE, Integer.MAX_VALUE};
        for (int line : wrong) {
            check.refused(x, "leastLine(1, " + line + ")", x.leastLine(1, line), 1);
            check.refused(x, "leastLine(0, " + line + ")", x.leastLine(0, line), 1);
        }
        x = wanting(0, 0, 2);
        check.granted(x, "leastLine(1, 1) of two", x.leastLine(1, 1), 7);
        check.refused(x, "leastLine(1, 2) of two", x.leastLine(1, 2), 1);
        x = wanting(0, 0, 1);
        check.granted(x, "leastLine(1, 0) of one", x.leastLine(1, 0), 3);
        check.refused(x, "leastLine(1, 1) of one", x.leastLine(1, 1), 1);
    }

    // ---- how many lines

    private void oneLine() {
        leastIs(wanting(5, 0, 5), 1, 0);
        leastIs(wanting(5, 9, 5), 9, 0);
        leastIs(wanting(5, 0, 6), 1, 3);
        leastIs(wanting(5, 0, 4), 1, 6);
        leastIs(wanting(9, 9, 10), 1, 3);
    }

    private void aAtZero() {
        leastIs(wanting(0, 0, 0), 1, 0);
        leastIs(wanting(0, 0, 0, 1, 0, 0, 2, 0, 1), 1, 6);
        // Twice down: up to 2 it is 0.
        leastIs(wanting(0, 0, 0, 1, 0, 0, 2, 0, 0, 3, 0, 1), 1, 16, 14);
    }

    private void twoLines() {
        // up a, then to line 1 (7 and 2); up a, then end (7).
        leastIs(wanting(0, 0, 2), 1, 9, 7);
        leastIs(wanting(7, 0, 9), 9, 9, 7);
    }

    private void threeLines() {
        // up a, then to line 1 (13 and 2); up a, then to line 2 (13 and 3); up a, then end (13).
        leastIs(wanting(0, 0, 3), 1, 15, 16, 13);
        leastIs(wanting(9, 0, 6), 1, 28, 29, 26);
        // if b to line 1, else line 2 (1 and 3 and 3 and 2); down a, then end (26); up a, then end (13).
        leastIs(wanting(5, 1, 4, 5, 0, 6), 1, 9, 26, 13);
    }

    private void threeDontDo() {
        int[] numbers = {4, 5, 99};
        for (int wanted : numbers) {
            BurntWays x = wanting(0, 0, wanted);
            for (int w = 1; w <= 9; w += 4) {
                check.granted(x, "least(" + w + ") of " + wanted, x.least(w), -2);
                for (int line = 0; line <= 2; line++) {
                    check.refused(x, "leastLine(" + w + ", " + line + ") if there is none", x.leastLine(w, line), 6);
                }
                check.refused(x, "leastLine(" + w + ", 3) if there is none", x.leastLine(w, 3), 1);
            }
        }
        BurntWays x = wanting(5, 0, 5, 5, 0, 6);
        check.granted(x, "least(9) of two that can't both be", x.least(9), -2);
    }

    /** a and b and 1: up a, if b to line 1, else line 2 (13 and 9); down b, to line 0 (39 and 1); end. */
    private void waysLaidAsOften() {
        for (int b = 2; b <= 9; b++) {
            BurntWays x = wanting(0, b, b + 1, 0, 0, 1);
            leastIs(x, b, 22, 40, 0);
            if (b > 2) {
                check.granted(x, "least(" + (b - 1) + ") of " + b + " rounds", x.least(b - 1), -2);
                check.refused(x, "leastLine(" + (b - 1) + ", 0)", x.leastLine(b - 1, 0), 6);
            }
        }
    }

    /** Each WAY is LAID w times for itself: TO and ELSE of a line may be taken more than w times together. */
    private void bothWaysOfALine() {
        // down b, if b to line 1, else line 1 (39 and 8); up a, if b to line 0, else line 2 (13 and 6); up a, end.
        leastIs(wanting(0, 2, 3, 0, 4, 5), 3, 47, 19, 13);
        // up a, if b to line 1, else line 2; down b, if b to line 2, else line 0 (39 and 10); end.
        leastIs(wanting(2, 2, 3, 0, 1, 2), 1, 22, 49, 0);
    }

    private void bAtZero() {
        // down b, if b to line 1, else line 1; up a, if b to line 0, else line 2; down a, end: 0 is 0, as 1 is.
        leastIs(wanting(0, 0, 0, 0, 1, 0, 0, 2, 1), 1, 47, 19, 26);
        leastIs(wanting(3, 3, 0, 1, 3, 0, 0, 4, 0), 3, 28, 29, 26);
    }

    private void byEndAlone() {
        // a is as wanted at once, but by end alone: to line 0 isn't one of the least.
        BurntWays x = wanting(4, 0, 4);
        leastIs(x, 9, 0);
        // 10 rounds of up a END by 2.
        x = wanting(0, 0, 10);
        check.granted(x, "least(9) of ten rounds", x.least(9), -2);
    }

    private void sixWants() {
        BurntWays x = wanting(0, 0, 1, 0, 1, 2, 0, 2, 3, 1, 0, 2, 9, 9, 19, 5, 4, 10);
        check.due("six wants", x.size(3), 6);
        leastIs(x, 9, 22, 40, 0);
        check.granted(x, "least(8)", x.least(8), -2);
        x = wanting(1, 0, 2, 1, 0, 2, 1, 0, 2, 1, 0, 2, 1, 0, 2, 1, 0, 3);
        check.granted(x, "least(1): the sixth counts", x.least(1), -2);
        x = wanting(1, 0, 3, 1, 0, 2, 1, 0, 2, 1, 0, 2, 1, 0, 2, 1, 0, 2);
        check.granted(x, "least(1): the first counts", x.least(1), -2);
    }

    private void countersThatDontCount() {
        BurntWays x = Check.told("program p;want 3,0,9,9 is 4;want 3,0,0,0 is 4");
        check.granted(x, "least(1)", x.least(1), 1);
        check.granted(x, "leastLine(1, 0)", x.leastLine(1, 0), 3);
        x = Check.told("program p;want 3,0,1,0 is 4;want 3,0,0,1 is 3");
        check.granted(x, "least(9): c and d can't be asked", x.least(9), -2);
    }

    private void firstOfAll() {
        // down a is 14 .. 20 of two lines: down a, then to line 1 (14 and 2); down a, then end (14).
        leastIs(wanting(9, 0, 7), 1, 16, 14);
        // If b is above 0, up a once more: that line comes behind if, not ahead of it, as none is less than up a.
        leastIs(wanting(0, 1, 2, 0, 0, 1), 1, 9, 16, 13);
    }

    // ---- what it leaves, and what leaves it

    private void leastStays() {
        BurntWays x = wanting(0, 0, 2);
        leastIs(x, 1, 9, 7);
        leastIs(x, 9, 9, 7);
        leastIs(x, 1, 9, 7);
        x = Check.told("program p,q,r;line p then to p by 9;line q then end;line r then end;want 0,0,0,0 is 2");
        x.start(1, 2, 3, 4);
        x.steps(3);
        check.granted(x, "least(2)", x.least(2), 2);
        check.due("the RUN stays", x.now(1) + x.counter(3), 7);
        x.mark();
        check.granted(x, "fold(0)", x.fold(0), 1);
        check.granted(x, "least(2) behind a fold()", x.least(2), 2);
        x.back(0);
        check.granted(x, "leastLine(2, 0) behind back()", x.leastLine(2, 0), 9);
        check.refused(x, "a faulty text", Check.tell(x, "program p;want 0,0,0,0 is 100"), 4);
        check.granted(x, "least(2) behind it", x.least(2), 2);
    }

    private void leastOfAnotherProgram() {
        BurntWays x = wanting(0, 0, 2);
        leastIs(x, 5, 9, 7);
        told = wants(0, 0, 3);
        Check.tell(x, told);
        leastIs(x, 5, 15, 16, 13);
        told = wants(0, 0, 4);
        Check.tell(x, told);
        check.granted(x, "least(5) of another one", x.least(5), -2);
        Check.tell(x, "program p");
        check.refused(x, "least(5) without wants", x.least(5), 6);
        told = wants(0, 0, 1);
        Check.tell(x, told);
        leastIs(x, 5, 3);
    }
}
