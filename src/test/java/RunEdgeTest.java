/** The edges that the document names of RUNS and STEPS, and of promises 6 to 17. */
public final class RunEdgeTest {
    /** Adds b to a, as long as b is 3 at most; a line that nothing leads to. */
    private static final String ADDER = "program top,add,out,dup;line top then if b to add by 3 else out by 1;"
            + "line add do up a,down b then to top by 3;line out then end;line dup then to top by 2";
    private static final int[] FAR_NUMBERS = {Integer.MIN_VALUE, -1000, -2, 1000, Integer.MAX_VALUE};

    private final Check check = new Check("RunEdgeTest");

    public static void main(String[] args) {
        RunEdgeTest test = new RunEdgeTest();
        test.startBounds();
        test.startTakesNothing();
        test.stepsBounds();
        test.stepsTillItEnds();
        test.stepsOfAnEndedRun();
        test.runToItsEnd();
        test.longRun();
        test.counterAtItsBounds();
        test.ifAtItsBounds();
        test.wayTakenAsOftenAsLaid();
        test.burntWaysLastStep();
        test.endsByEnd();
        test.untoldLines();
        test.givesOnce();
        test.eachActGivesOnce();
        test.givesBothWays();
        test.givesNothing();
        test.givesAnewInAnotherRun();
        test.nowBounds();
        test.nowsTakenInAll();
        test.counterBounds();
        test.leftBounds();
        test.leftCountsDown();
        test.burntBits();
        test.pathBounds();
        test.pathOfLongRuns();
        test.answerBounds();
        test.answerNotByEnd();
        test.partedBounds();
        test.partedByLines();
        test.partedByEnds();
        test.partedInputs();
        test.fourMarks();
        test.backBounds();
        test.marksKeepAll();
        test.marksKeepFolds();
        test.marksKeepWhatWasGiven();
        test.marksAreNotTheRun();
        test.check.end();
    }

    /** Ten lines in a ring, by either way 9 times; a counts down at the first. A RUN with a being 2 has 101 STEPS. */
    private static String ring() {
        StringBuilder s = new StringBuilder("program ka,kb,kc,kd,ke,kf,kg,kh,ki,kj");
        for (int i = 0; i < 10; i++) {
            String next = "k" + (char) ('a' + (i + 1) % 10);
            s.append(";line k").append((char) ('a' + i)).append(i == 0 ? " do down a" : "")
                    .append(" then if a to ").append(next).append(" by 9 else ").append(next).append(" by 9");
        }
        return s.toString();
    }

    // ---- promise 6

    private void startBounds() {
        BurntWays x = Check.told(ADDER);
        int[] good = {0, 1, 98, 99};
        int[] wrong = {-1, 100, Integer.MIN_VALUE, Integer.MAX_VALUE};
        for (int i = 0; i < 4; i++) {
            for (int n : good) {
                check.granted(x, "start() " + i + " being " + n, startWith(x, i, n));
                check.due("counter(" + i + ")", x.counter(i), n);
                check.due("the others", x.counter(0) + x.counter(1) + x.counter(2) + x.counter(3), 15 + n);
            }
            for (int n : wrong) {
                check.refused(x, "start() " + i + " being " + n, startWith(x, i, n), 2);
                check.due("counter(" + i + ") as it was", x.counter(i), 99);
            }
        }
        check.granted(x, "start() of all 0", x.start(0, 0, 0, 0));
        check.granted(x, "start() of all 99", x.start(99, 99, 99, 99));
        x = new BurntWays();
        check.refused(x, "start() without a PROGRAM", x.start(0, 0, 0, 0), 1);
        check.refused(x, "start(100) without a PROGRAM", x.start(100, 0, 0, 0), 1);
    }

    /** All counters 5, but one. */
    private static boolean startWith(BurntWays x, int i, int n) {
        return x.start(i == 0 ? n : 5, i == 1 ? n : 5, i == 2 ? n : 5, i == 3 ? n : 5);
    }

    private void startTakesNothing() {
        BurntWays x = Check.told(ADDER);
        x.start(0, 3, 0, 0);
        x.run();
        check.granted(x, "start()", x.start(0, 3, 0, 0));
        check.due("nothing is burnt", x.burnt(), 0);
        check.due("line", x.now(0), 0);
        check.due("STEPS", x.now(1), 0);
        check.due("it goes on", x.now(2), 0);
        check.due("WAYS taken", x.now(3), 0);
        check.refused(x, "path(1)", x.path(1), 1);
        check.granted(x, "run() as before", x.run(), 8);
    }

    // ---- promises 7 and 8

    private void stepsBounds() {
        BurntWays x = Check.told(ring());
        x.start(9, 0, 0, 0);
        int[] wrong = {0, -1, 100, Integer.MIN_VALUE, Integer.MAX_VALUE};
        for (int n : wrong) {
            check.refused(x, "steps(" + n + ")", x.steps(n), 2);
            check.due("no STEP", x.now(1), 0);
        }
        check.granted(x, "steps(1)", x.steps(1), 1);
        check.due("one STEP", x.now(1), 1);
        x.start(9, 0, 0, 0);
        check.granted(x, "steps(99)", x.steps(99), 99);
        check.due("99 STEPS", x.now(1), 99);
        check.due("it goes on", x.now(2), 0);
        x = new BurntWays();
        check.refused(x, "steps(1) without a PROGRAM", x.steps(1), 1);
        check.refused(x, "steps(0) without a PROGRAM", x.steps(0), 1);
        check.refused(x, "steps(100) without a PROGRAM", x.steps(100), 1);
    }

    private void stepsTillItEnds() {
        BurntWays x = Check.told(ADDER);
        x.start(0, 2, 0, 0);
        check.granted(x, "steps(5) of 6", x.steps(5), 5);
        check.due("it goes on", x.now(2), 0);
        check.granted(x, "steps(1): the last", x.steps(1), 1);
        check.due("it has ENDED", x.now(2), 1);
        x.start(0, 2, 0, 0);
        check.granted(x, "steps(6) of 6", x.steps(6), 6);
        check.due("it has ENDED", x.now(2), 1);
        x.start(0, 2, 0, 0);
        check.granted(x, "steps(7) of 6", x.steps(7), 6);
        x.start(0, 2, 0, 0);
        check.granted(x, "steps(99) of 6", x.steps(99), 6);
        x = Check.told(ring());
        x.start(2, 0, 0, 0);
        check.granted(x, "steps(99) of 101", x.steps(99), 99);
        check.granted(x, "steps(99) of 2", x.steps(99), 2);
        check.due("101 STEPS", x.now(1), 101);
    }

    private void stepsOfAnEndedRun() {
        String[] texts = {"program p;line p then end", "program p;line p then to p by 1", "program p,q;line p then to q by 1"};
        for (int end = 1; end <= 3; end++) {
            BurntWays x = Check.told(texts[end - 1]);
            x.run();
            check.due("it ENDED", x.now(2), end);
            check.refused(x, "steps(1) of it", x.steps(1), 6);
            check.refused(x, "steps(99) of it", x.steps(99), 6);
            check.refused(x, "steps(0) of it", x.steps(0), 2);
            check.refused(x, "steps(100) of it", x.steps(100), 2);
            check.granted(x, "run() of it", x.run(), 0);
            check.due("how it ENDED stays", x.now(2), end);
        }
        BurntWays x = Check.told("program p");
        check.refused(x, "steps(1) at a line not told", x.steps(1), 6);
    }

    private void runToItsEnd() {
        BurntWays x = Check.told(ADDER);
        check.granted(x, "run()", x.run(), 2);
        check.granted(x, "run() once more", x.run(), 0);
        x.start(0, 2, 0, 0);
        x.steps(5);
        check.granted(x, "run() of the last STEP", x.run(), 1);
        x = new BurntWays();
        check.refused(x, "run() without a PROGRAM", x.run(), 1);
    }

    private void longRun() {
        BurntWays x = Check.told(ring());
        x.start(99, 0, 0, 0);
        check.granted(x, "run() by TO alone", x.run(), 91);
        x.start(10, 0, 0, 0);
        check.granted(x, "run() by all WAYS", x.run(), 181);
        check.due("WAYS taken", x.now(3), 180);
        // p's WAY is taken 10 times, q's 9 times, then it is burnt.
        x = Check.told("program p,q;line p then to q by 9;line q do give p,give p,give p,give p then to p by 9");
        check.granted(x, "run(): gives are spent at once", x.run(), 20);
        // Ten rounds of p, q, p, r: r's WAY is burnt with the tenth.
        x = Check.told("program p,q,r;line p do up a then if b to r by 9 else q by 9;line q do set b 1 then to p by 9;"
                + "line r do give p,give q,set b 0,give r then to p by 9");
        check.granted(x, "run() with gives", x.run(), 40);
        check.due("it ENDED", x.now(2), 2);
        check.due("WAYS taken", x.now(3), 39);
        check.due("p's TO, taken since it was given", x.left(0), 0);
    }

    // ---- STEPS

    private void counterAtItsBounds() {
        String names = "abcd";
        for (int i = 0; i < 4; i++) {
            char c = names.charAt(i);
            int[][] ups = {{0, 1}, {1, 2}, {97, 98}, {98, 99}, {99, 99}};
            BurntWays x = Check.told("program p;line p do up " + c + " then end");
            for (int[] up : ups) {
                startWith(x, i, up[0]);
                x.run();
                check.due("up " + c + " of " + up[0], x.counter(i), up[1]);
                check.due("the others", x.counter(0) + x.counter(1) + x.counter(2) + x.counter(3), 15 + up[1]);
            }
            int[][] downs = {{0, 0}, {1, 0}, {2, 1}, {98, 97}, {99, 98}};
            x = Check.told("program p;line p do down " + c + " then end");
            for (int[] down : downs) {
                startWith(x, i, down[0]);
                x.run();
                check.due("down " + c + " of " + down[0], x.counter(i), down[1]);
                check.due("the others", x.counter(0) + x.counter(1) + x.counter(2) + x.counter(3), 15 + down[1]);
            }
        }
        BurntWays x = Check.told("program p;line p do up a,up a,down b,down b then end");
        x.start(98, 1, 0, 0);
        x.run();
        check.due("up, up of 98", x.counter(0), 99);
        check.due("down, down of 1", x.counter(1), 0);
        x = Check.told("program p;line p do up a,down a,down b,up b then end");
        x.start(99, 0, 0, 0);
        x.run();
        check.due("up, down of 99, in order", x.counter(0), 98);
        check.due("down, up of 0, in order", x.counter(1), 1);
        check.due("answer() of up at 99", Check.told("program p;line p do up a then end").answer(99, 0, 0, 0), 99);
    }

    private void ifAtItsBounds() {
        String names = "abcd";
        for (int i = 0; i < 4; i++) {
            BurntWays x = Check.told("program p,q,r;line p then if " + names.charAt(i) + " to q by 1 else r by 1");
            int[][] due = {{0, 2}, {1, 1}, {2, 1}, {99, 1}};
            for (int[] d : due) {
                startWith(x, i, d[0]);
                x.run();
                check.due("if " + names.charAt(i) + " being " + d[0], x.now(0), d[1]);
            }
        }
        // The ACTS come first.
        BurntWays x = Check.told("program p,q,r;line p do down a then if a to q by 1 else r by 1");
        x.start(1, 0, 0, 0);
        x.run();
        check.due("if a behind down a", x.now(0), 2);
    }

    private void wayTakenAsOftenAsLaid() {
        for (int laid = 1; laid <= 9; laid++) {
            String[] texts = {
                "program p;line p do up b then to p by " + laid,
                "program p;line p do up b then if d to p by " + laid + " else p by 1",
                "program p;line p do up b then if c to p by 1 else p by " + laid,
            };
            for (String text : texts) {
                BurntWays x = Check.told(text);
                x.start(0, 0, 0, 1);
                check.granted(x, text + ", run()", x.run(), laid + 1);
                check.due(text + ", WAYS taken", x.now(3), laid);
                check.due(text + ", how it ENDED", x.now(2), 2);
                check.due(text + ", b", x.counter(1), laid + 1);
            }
        }
    }

    private void burntWaysLastStep() {
        BurntWays x = Check.told("program p,q;line p do up a then to q by 1;line q do up b then to p by 9");
        check.granted(x, "steps(2)", x.steps(2), 2);
        check.due("it goes on", x.now(2), 0);
        check.due("nothing is LEFT", x.left(0), 0);
        check.granted(x, "the STEP that ends it", x.steps(1), 1);
        check.due("its ACTS are done", x.counter(0), 2);
        check.due("it stays at its line", x.now(0), 0);
        check.due("it is counted", x.now(1), 3);
        check.due("no WAY is taken by it", x.now(3), 2);
        check.due("path() behind it", x.path(3), 0);
        check.due("LEFT isn't below 0", x.left(0), 0);
    }

    private void endsByEnd() {
        BurntWays x = Check.told("program p;line p do up c then end");
        check.granted(x, "run()", x.run(), 1);
        check.due("its ACTS are done", x.counter(2), 1);
        check.due("how", x.now(2), 1);
        check.due("its line", x.now(0), 0);
        check.due("path(1)", x.path(1), 0);
    }

    private void untoldLines() {
        BurntWays x = Check.told("program p,q;line q then end");
        check.due("ENDED at once", x.now(2), 3);
        check.due("without a STEP", x.now(1), 0);
        check.granted(x, "run()", x.run(), 0);
        check.granted(x, "start()", x.start(1, 1, 1, 1));
        check.due("ENDED at once behind start()", x.now(2), 3);
        x = Check.told("program p,q;line p then to q by 1");
        check.due("it goes on", x.now(2), 0);
        check.granted(x, "steps(2)", x.steps(2), 1);
        check.due("ENDED with the STEP that came to it", x.now(2) * 100 + x.now(1) * 10 + x.now(0), 311);
        x = Check.told("program p,q;line q do give q then to p by 9");
        check.granted(x, "a line that isn't told has no WAYS", x.size(2), 1);
        check.refused(x, "left(0)", x.left(0), 1);
    }

    // ---- give

    private void givesOnce() {
        BurntWays x = Check.told("program p,q;line p then to q by 2;line q do give p then to p by 9");
        // p, q, p, q (p's WAY given at the first q, 1 taken since), p: 2 taken, q, p: burnt.
        x.steps(1);
        check.due("taken once", x.left(0), 1);
        x.steps(1);
        check.due("given back", x.left(0), 2);
        x.steps(2);
        check.due("not given twice", x.left(0), 1);
        check.granted(x, "run()", x.run(), 3);
        check.due("STEPS", x.now(1), 7);
        check.due("WAYS taken", x.now(3), 6);
        check.due("how it ENDED", x.now(2), 2);
        check.due("most(0, 0)", x.most(0, 0), 3);
    }

    private void eachActGivesOnce() {
        // Both ACTS give at the same STEP: the second gives nothing more.
        BurntWays x = Check.told("program p,q;line p then to q by 1;line q do give p,give p then to p by 9");
        check.granted(x, "two ACTS of one line", x.run(), 5);
        // ACTS of two lines give each once.
        x = Check.told("program p,q,r;line p then to q by 1;line q do give p then to r by 9;line r do give p then to p by 9");
        check.granted(x, "ACTS of two lines at one round", x.run(), 7);
        x = Check.told("program p,q,r,s;line p do down a then if a to q by 1 else r by 1;line q do give p then to p by 9;"
                + "line r do give p then to p by 9");
        x.start(2, 0, 0, 0);
        // p, q (given), p, r (given), p, r, p: burnt.
        check.granted(x, "ACTS of two lines, one behind the other", x.run(), 7);
        // The fourth ACT of the tenth line gives, too, and once.
        String names = "program ka,kb,kc,kd,ke,kf,kg,kh,ki,kj";
        x = Check.told(names + ";line ka then to kj by 1;line kj do up a,up b,up c,give ka then to ka by 9");
        check.granted(x, "the last ACT of all", x.run(), 5);
        x = Check.told(names + ";line ka then to ki by 1;line ki do give ka then to kj by 9;"
                + "line kj do give kb,give kc,give kd,give ki then to ka by 9");
        check.granted(x, "no ACT is taken for another", x.run(), 7);
        check.due("ki's WAY was given back", x.left(16), 8);
    }

    private void givesBothWays() {
        BurntWays x = Check.told("program p,q,r;line p do down a then if a to q by 1 else r by 1;line q then to p by 9;"
                + "line r do give p then to p by 9");
        x.start(2, 0, 0, 0);
        x.steps(3);
        check.due("both are burnt", x.left(0) * 10 + x.left(1), 0);
        check.due("as bits", x.burnt(), 3);
        x.steps(1);
        check.due("both are given", x.left(0) * 10 + x.left(1), 11);
        check.due("no other one", x.left(2) * 10 + x.left(4), 88);
        for (int line = 1; line <= 8; line++) {
            String name = "k" + (char) ('a' + line);
            x = Check.told("program ka,kb,kc,kd,ke,kf,kg,kh,ki,kj;line ka then to " + name + " by 9;line " + name
                    + " do down a then if a to ka by 1 else kj by 1;line kj do give " + name + " then to ka by 9");
            x.start(2, 0, 0, 0);
            x.steps(4);
            check.due("both of " + name + " are burnt", x.burnt(), 3 << 2 * line);
            x.steps(1);
            check.due("both of " + name + " are given", x.burnt(), 0);
            check.due("no other one", x.left(0) * 10 + x.left(18), 78);
        }
    }

    private void givesNothing() {
        // An ACT has given even if there was nothing to give back.
        BurntWays x = Check.told("program p;line p do give p then to p by 2");
        check.granted(x, "its own WAYS at the first STEP", x.run(), 3);
        x = Check.told("program p,q;line p do give q then end");
        check.granted(x, "a line that isn't told", x.run(), 1);
        x = Check.told("program p,q;line p do give q then to p by 1;line q then end");
        check.granted(x, "a line without WAYS", x.run(), 2);
        check.due("p's WAY isn't given", x.left(0), 0);
    }

    private void givesAnewInAnotherRun() {
        BurntWays x = Check.told("program p,q;line p then to q by 1;line q do give p then to p by 9");
        for (int i = 0; i < 3; i++) {
            check.granted(x, "run()", x.run(), 5);
            x.start(0, 0, 0, 0);
        }
        check.granted(x, "longest(0)", x.longest(0), 5);
        check.granted(x, "longest(3)", x.longest(3), 5);
        check.granted(x, "longestAt(3)", x.longestAt(3), 0);
    }

    // ---- promises 9 to 12

    private void nowBounds() {
        BurntWays x = Check.told(ADDER);
        x.start(0, 1, 0, 0);
        int[][] due = {{0, 0, 0, 0}, {1, 1, 0, 1}, {0, 2, 0, 2}, {2, 3, 0, 3}, {2, 4, 1, 3}};
        for (int step = 0; step < due.length; step++) {
            for (int what = 0; what <= 3; what++) {
                check.granted(x, "now(" + what + ") behind " + step, x.now(what), due[step][what]);
            }
            x.steps(1);
        }
        check.refused(x, "now(-1)", x.now(-1), 1);
        check.refused(x, "now(4)", x.now(4), 1);
        for (int what : FAR_NUMBERS) {
            check.refused(x, "now(" + what + ")", x.now(what), 1);
        }
        x = new BurntWays();
        for (int what = -1; what <= 4; what++) {
            check.refused(x, "now(" + what + ") without a PROGRAM", x.now(what), 1);
        }
    }

    private void nowsTakenInAll() {
        BurntWays x = Check.told("program p,q;line p then to q by 1;line q do give p then to p by 5");
        x.run();
        check.due("what was given back counts", x.now(3), 4);
        check.due("LEFT of the one", x.left(0), 0);
        check.due("LEFT of the other", x.left(2), 3);
    }

    private void counterBounds() {
        BurntWays x = Check.told(ADDER);
        x.start(0, 99, 1, 98);
        int[] due = {0, 99, 1, 98};
        for (int i = 0; i < 4; i++) {
            check.granted(x, "counter(" + i + ")", x.counter(i), due[i]);
        }
        check.refused(x, "counter(-1)", x.counter(-1), 1);
        check.refused(x, "counter(4)", x.counter(4), 1);
        for (int i : FAR_NUMBERS) {
            check.refused(x, "counter(" + i + ")", x.counter(i), 1);
        }
        x = new BurntWays();
        for (int i = -1; i <= 4; i++) {
            check.refused(x, "counter(" + i + ") without a PROGRAM", x.counter(i), 1);
        }
    }

    private void leftBounds() {
        BurntWays x = Check.told(ring());
        for (int way = 0; way < 20; way++) {
            check.granted(x, "left(" + way + ") of a full net", x.left(way), 9);
        }
        check.refused(x, "left(-1)", x.left(-1), 1);
        check.refused(x, "left(20)", x.left(20), 1);
        for (int way : FAR_NUMBERS) {
            check.refused(x, "left(" + way + ")", x.left(way), 1);
        }
        // A line to another has no ELSE, one that ends no WAY at all, nor one that isn't told.
        x = Check.told("program p,q,r,s;line p then to q by 1;line q then if a to r by 2 else s by 3;line r then end");
        int[] due = {1, -1, 2, 3, -1, -1, -1, -1, -1};
        for (int way = 0; way < due.length; way++) {
            if (due[way] < 0) {
                check.refused(x, "left(" + way + ")", x.left(way), 1);
            } else {
                check.granted(x, "left(" + way + ")", x.left(way), due[way]);
            }
        }
        x = new BurntWays();
        check.refused(x, "left(0) without a PROGRAM", x.left(0), 1);
    }

    private void leftCountsDown() {
        BurntWays x = Check.told("program p;line p then to p by 9");
        for (int left = 9; left >= 0; left--) {
            check.granted(x, "left(0)", x.left(0), left);
            check.granted(x, "burnt()", x.burnt(), left == 0 ? 1 : 0);
            x.steps(1);
        }
        check.due("ENDED", x.now(2), 2);
        check.granted(x, "left(0) of the ended one", x.left(0), 0);
    }

    private void burntBits() {
        BurntWays x = Check.told(ring());
        x.start(10, 0, 0, 0);
        check.granted(x, "burnt() of nothing", x.burnt(), 0);
        x.steps(80);
        check.granted(x, "burnt() of all taken but once", x.burnt(), 0);
        x.steps(1);
        check.granted(x, "burnt() of the first", x.burnt(), 1);
        x.steps(9);
        check.granted(x, "burnt() of all TO", x.burnt(), 0b01010101010101010101);
        x.run();
        check.granted(x, "burnt() of all", x.burnt(), 0b11111111111111111111);
        x = Check.told("program p;line p then end");
        check.granted(x, "burnt() without WAYS", x.burnt(), 0);
        x = new BurntWays();
        check.refused(x, "burnt() without a PROGRAM", x.burnt(), 1);
    }

    // ---- promise 13

    private void pathBounds() {
        BurntWays x = Check.told(ADDER);
        x.start(0, 1, 0, 0);
        int[] due = {0, 1, 0, 2, 2};
        for (int steps = 0; steps <= 4; steps++) {
            for (int i = 0; i <= steps; i++) {
                check.granted(x, "path(" + i + ") behind " + steps, x.path(i), due[i]);
            }
            check.refused(x, "path(" + (steps + 1) + ") behind " + steps, x.path(steps + 1), 1);
            x.steps(1);
        }
        check.refused(x, "path(-1)", x.path(-1), 1);
        check.refused(x, "path(100)", x.path(100), 1);
        for (int i : FAR_NUMBERS) {
            check.refused(x, "path(" + i + ")", x.path(i), 1);
        }
        x = Check.told("program p");
        check.granted(x, "path(0) at a line not told", x.path(0), 0);
        check.refused(x, "path(1) at a line not told", x.path(1), 1);
        x = new BurntWays();
        check.refused(x, "path(0) without a PROGRAM", x.path(0), 1);
    }

    private void pathOfLongRuns() {
        BurntWays x = Check.told(ring());
        x.start(10, 0, 0, 0);
        x.steps(98);
        check.granted(x, "path(98)", x.path(98), 8);
        check.refused(x, "path(99) not yet", x.path(99), 1);
        x.steps(1);
        check.granted(x, "path(99)", x.path(99), 9);
        check.refused(x, "path(100) not yet", x.path(100), 1);
        x.steps(2);
        check.granted(x, "path(99) of more", x.path(99), 9);
        check.refused(x, "path(100): 99 at most", x.path(100), 1);
        check.refused(x, "path(101): 99 at most", x.path(101), 1);
        x.run();
        for (int i = 0; i <= 99; i++) {
            check.granted(x, "path(" + i + ")", x.path(i), i % 10);
        }
    }

    // ---- promises 14 and 15

    private void answerBounds() {
        BurntWays x = Check.told(ADDER);
        int[] wrong = {-1, 100, Integer.MIN_VALUE, Integer.MAX_VALUE};
        for (int n : wrong) {
            check.refused(x, "answer(" + n + ", 0, 0, 0)", x.answer(n, 0, 0, 0), 2);
            check.refused(x, "answer(0, " + n + ", 0, 0)", x.answer(0, n, 0, 0), 2);
            check.refused(x, "answer(0, 0, " + n + ", 0)", x.answer(0, 0, n, 0), 2);
            check.refused(x, "answer(0, 0, 0, " + n + ")", x.answer(0, 0, 0, n), 2);
        }
        check.granted(x, "answer() of all 0", x.answer(0, 0, 0, 0), 0);
        check.granted(x, "answer() of 99", x.answer(99, 0, 99, 99), 99);
        check.granted(x, "answer(98, 1)", x.answer(98, 1, 0, 0), 99);
        check.granted(x, "answer(99, 3)", x.answer(99, 3, 0, 0), 99);
        x = new BurntWays();
        check.refused(x, "answer() without a PROGRAM", x.answer(0, 0, 0, 0), 1);
        check.refused(x, "answer(100) without a PROGRAM", x.answer(100, 0, 0, 0), 1);
    }

    private void answerNotByEnd() {
        BurntWays x = Check.told(ADDER);
        x.start(7, 3, 5, 6);
        x.steps(4);
        check.granted(x, "answer(1, 3): the last that is fine", x.answer(1, 3, 0, 0), 4);
        check.refused(x, "answer(1, 4): END 2", x.answer(1, 4, 0, 0), 5);
        check.refused(x, "answer(0, 99): END 2", x.answer(0, 99, 0, 0), 5);
        check.due("this RUN stays", x.now(1) * 100 + x.now(3) * 10 + x.now(0), 440);
        check.due("its counters stay", x.counter(0) * 1000 + x.counter(1) * 100 + x.counter(2) * 10 + x.counter(3), 9156);
        check.due("its WAYS stay", x.left(0) * 100 + x.left(1) * 10 + x.left(2), 111);
        x = Check.told("program p,q;line p then to q by 1");
        check.refused(x, "answer(): END 3", x.answer(0, 0, 0, 0), 5);
        x = Check.told("program p");
        check.refused(x, "answer() at a line not told", x.answer(0, 0, 0, 0), 5);
    }

    private void partedBounds() {
        BurntWays x = Check.told(ADDER);
        check.granted(x, "parted(0, 0)", x.parted(0, 0), -2);
        check.granted(x, "parted(255, 255)", x.parted(255, 255), -2);
        check.granted(x, "parted(0, 255)", x.parted(0, 255), 1);
        check.granted(x, "parted(255, 0)", x.parted(255, 0), 1);
        int[] wrong = {-1, 256, Integer.MIN_VALUE, Integer.MAX_VALUE};
        for (int n : wrong) {
            check.refused(x, "parted(" + n + ", 0)", x.parted(n, 0), 1);
            check.refused(x, "parted(0, " + n + ")", x.parted(0, n), 1);
        }
        x = new BurntWays();
        check.refused(x, "parted() without a PROGRAM", x.parted(0, 0), 1);
    }

    private void partedByLines() {
        BurntWays x = Check.told("program p,q,r;line p then if a to q by 1 else r by 1;line q then end;line r then end");
        check.granted(x, "unlike lines", x.parted(0, 64), 1);
        check.granted(x, "both a above 0", x.parted(64, 128), -2);
        x = Check.told("program p,q,r;line p then if a to q by 1 else q by 1;line q then if a to r by 1 else p by 1");
        check.granted(x, "by other WAYS to the same line, then to unlike ones", x.parted(0, 64), 2);
        x = Check.told("program p,q;line p do down d then if d to p by 9 else q by 1;line q then end");
        check.granted(x, "with the last STEP but one", x.parted(2, 3), 2);
        x = Check.told("program p,q;line p then if a to q by 1 else q by 1");
        check.granted(x, "both at the same line that isn't told", x.parted(0, 64), -2);
        x = Check.told("program p,q,r;line p then if a to q by 1 else r by 1");
        check.granted(x, "at two lines that aren't told", x.parted(0, 64), 1);
        x = Check.told("program p");
        check.granted(x, "both at once", x.parted(0, 255), -2);
    }

    private void partedByEnds() {
        BurntWays x = Check.told("program p;line p then if a to p by 1 else p by 2");
        check.granted(x, "the first ENDS, the other doesn't", x.parted(64, 0), 2);
        check.granted(x, "the other ENDS, the first doesn't", x.parted(0, 64), 2);
        x = Check.told("program p;line p then if a to p by 2 else p by 2");
        check.granted(x, "both END with the same STEP", x.parted(0, 64), -2);
        x = Check.told("program p,q;line p do down d then if d to p by 1 else q by 1");
        // Both are at p behind the first STEP; then the one ENDS there by a burnt WAY, the other at q.
        check.granted(x, "both END, but otherwise", x.parted(3, 2), 2);
        // d is 1 and 2 when both END by 2 with their fourth STEP: with another STEP they would part.
        x = Check.told("program s,p,q;line s do up d,up d,up d then to p by 1;line p do down d then if d to p by 2 else q by 9");
        check.granted(x, "nothing is parted behind the end", x.parted(1, 2), -2);
    }

    /** The number of an INPUT: the last counter's change comes first. */
    private void partedInputs() {
        String names = "abcd";
        int[] one = {64, 16, 4, 1};
        for (int i = 0; i < 4; i++) {
            BurntWays x = Check.told("program p,q,r;line p then if " + names.charAt(i) + " to q by 1 else r by 1");
            for (int n = 0; n < 256; n += 5) {
                int count = n / one[i] % 4;
                check.granted(x, "parted(0, " + n + ") by " + names.charAt(i), x.parted(0, n), count > 0 ? 1 : -2);
            }
        }
    }

    // ---- promises 16 and 17

    private void fourMarks() {
        BurntWays x = Check.told(ADDER);
        x.start(0, 3, 0, 0);
        for (int i = 0; i < 4; i++) {
            check.due("MARKS", x.size(4), i);
            check.granted(x, "mark()", x.mark(), i);
            x.steps(1);
        }
        check.due("MARKS", x.size(4), 4);
        for (int i = 0; i < 3; i++) {
            check.refused(x, "a fifth mark()", x.mark(), 3);
            check.due("MARKS", x.size(4), 4);
        }
        for (int i = 0; i < 4; i++) {
            check.granted(x, "back(" + i + ")", x.back(i));
            check.due("STEPS", x.now(1), i);
        }
        check.refused(x, "a fifth mark() behind back()", x.mark(), 3);
        x = new BurntWays();
        check.refused(x, "mark() without a PROGRAM", x.mark(), 1);
    }

    private void backBounds() {
        BurntWays x = new BurntWays();
        check.refused(x, "back(0) without a PROGRAM", x.back(0), 1);
        x = Check.told(ADDER);
        for (int marks = 0; marks <= 4; marks++) {
            check.refused(x, "back(" + marks + ") of " + marks, x.back(marks), 1);
            check.refused(x, "back(-1)", x.back(-1), 1);
            if (marks > 0) {
                check.granted(x, "back(0)", x.back(0));
                check.granted(x, "back() of the last", x.back(marks - 1));
            }
            x.mark();
        }
        for (int i : FAR_NUMBERS) {
            check.refused(x, "back(" + i + ")", x.back(i), 1);
        }
    }

    private void marksKeepAll() {
        BurntWays x = Check.told(ADDER);
        x.start(7, 3, 5, 6);
        x.steps(4);
        x.mark();
        x.start(0, 0, 0, 0);
        x.run();
        for (int i = 0; i < 2; i++) {
            check.granted(x, "back(0)", x.back(0));
            check.due("its line, STEPS, end, WAYS", x.now(0) * 1000 + x.now(1) * 100 + x.now(2) * 10 + x.now(3), 404);
            check.due("counters", x.counter(0) * 1000 + x.counter(1) * 100 + x.counter(2) * 10 + x.counter(3), 9156);
            check.due("LEFT", x.left(0) * 100 + x.left(1) * 10 + x.left(2), 111);
            check.due("path", x.path(1) * 100 + x.path(2) * 10 + x.path(3), 101);
            check.refused(x, "path(5)", x.path(5), 1);
            check.due("MARKS", x.size(4), 1);
            check.granted(x, "run()", x.run(), 4);
            check.due("as it would have gone on", x.counter(0) * 10 + x.now(2), 101);
        }
        // An ended RUN is kept, too.
        check.granted(x, "mark()", x.mark(), 1);
        x.back(0);
        check.due("it goes on", x.now(2), 0);
        x.back(1);
        check.due("it has ENDED", x.now(2), 1);
    }

    private void marksKeepFolds() {
        BurntWays x = Check.told("program p,q,r;line p then if a to q by 1 else r by 2;line q then end;line r then end");
        x.start(0, 0, 0, 0);
        x.run();
        x.mark();
        check.granted(x, "fold(3)", x.fold(3), 1);
        x.mark();
        check.due("folded", x.size(1) * 10 + x.line(0, 5), 21);
        x.back(0);
        check.due("as it was", x.size(1) * 10 + x.line(0, 5), 32);
        check.due("its RUN was at the line that was folded", x.now(0), 2);
        check.due("path(1)", x.path(1), 2);
        check.granted(x, "first(0, 2) of it", x.first(0, 2), 0);
        check.granted(x, "seen(0) of it", x.seen(0), 0b101);
        x.back(1);
        check.due("folded again", x.size(1) * 10 + x.line(0, 5), 21);
        check.granted(x, "seen(0) of it folded", x.seen(0), 0b011);
        check.due("MARKS", x.size(4), 2);
    }

    private void marksKeepWhatWasGiven() {
        BurntWays x = Check.told("program p,q;line p then to q by 1;line q do give p then to p by 9");
        x.steps(1);
        x.mark();
        x.steps(1);
        x.mark();
        x.back(0);
        check.granted(x, "run(): it has not given yet", x.run(), 4);
        x.back(1);
        check.granted(x, "run(): it has given", x.run(), 3);
        check.due("WAYS taken", x.now(3), 4);
    }

    private void marksAreNotTheRun() {
        BurntWays x = Check.told(ring());
        x.start(10, 0, 0, 0);
        x.mark();
        x.run();
        x.mark();
        x.start(3, 3, 3, 3);
        x.back(0);
        check.due("nothing is burnt by the first", x.burnt() + x.now(1), 0);
        x.back(1);
        check.due("all is burnt by the second", x.burnt(), 0xfffff);
        x.start(0, 0, 0, 0);
        x.run();
        x.back(1);
        check.due("all is still burnt by it", x.burnt(), 0xfffff);
        check.due("path(99)", x.path(99), 9);
        // With a being 3 the rounds are of nine lines from the third on: another one is come to with each STEP.
        x = Check.told(ring().replace("to ka by 9 else ka by 9", "to ka by 9 else kb by 9"));
        x.start(10, 0, 0, 0);
        x.run();
        x.mark();
        x.start(3, 0, 0, 0);
        check.granted(x, "run()", x.run(), 103);
        check.due("path(98) and path(99)", x.path(98) * 10 + x.path(99), 67);
        x.mark();
        x.back(0);
        check.due("path(98) and path(99) of the first", x.path(98) * 10 + x.path(99), 89);
        x.back(1);
        check.due("path(98) and path(99) of the second", x.path(98) * 10 + x.path(99), 67);
    }
}
