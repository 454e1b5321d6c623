/** The edges that the document names of lines that are ALIKE, MERGED, FAIR and FOLDED: promises 36 to 39. */
public final class FoldEdgeTest {
    private static final String TEN_NAMES = "program ka,kb,kc,kd,ke,kf,kg,kh,ki,kj";
    /** x and y are ALIKE; once MERGED it ENDS with another b, if all counters are 3. */
    private static final String LAST_INPUT = "program p,q,r,s,u,x,y,z;line p do down a,down a then if a to q by 1 else u by 1;"
            + "line q do down b,down b then if b to r by 1 else u by 1;"
            + "line r do down c,down c then if c to s by 1 else u by 1;"
            + "line s do down d,down d then if d to x by 1 else u by 1;line u then end;"
            + "line x do up a then to z by 1;line y do up a then to z by 1;line z do up b then to x by 1";
    /** b turns with each round: p may be LAID twice more, but not 4 times more, and not once. */
    private static final String TURNS = ";line s then if b to t by 9 else u by 9;line t do set b 0 then to p by 1;"
            + "line u do set b 1 then to p by 9";
    private static final int[] WRONG_BOUNDS = {-1, 4, Integer.MIN_VALUE, Integer.MAX_VALUE};

    private final Check check = new Check("FoldEdgeTest");

    public static void main(String[] args) {
        FoldEdgeTest test = new FoldEdgeTest();
        test.withoutProgram();
        test.alikeBounds();
        test.alikeInAll();
        test.unlikeByOneThing();
        test.alikeLaidOtherwise();
        test.alikeInAnotherProgram();
        test.alikeOfLinesNotTold();
        test.unfairBounds();
        test.unfairInOrderOfRefusals();
        test.unfairFirstInput();
        test.unfairByTheEndOrACounter();
        test.unfairMergesNothing();
        test.foldBounds();
        test.foldNothing();
        test.foldBeginsAnew();
        test.foldAllTen();
        test.foldLaysNineAtMost();
        test.foldTurnsWaysAndGives();
        test.foldTellsTheLineNoMore();
        test.foldFirstByTheLowerLine();
        test.foldFirstByTheOtherLine();
        test.foldTillThereIsNone();
        test.foldByK();
        test.sameBounds();
        test.sameAsItWasTold();
        test.sameByTheEnd();
        test.check.end();
    }

    private void withoutProgram() {
        BurntWays x = new BurntWays();
        check.refused(x, "alike(0, 1)", x.alike(0, 1), 1);
        check.refused(x, "unfair(0, 1, 0)", x.unfair(0, 1, 0), 1);
        check.refused(x, "unfair(0, 1, 4)", x.unfair(0, 1, 4), 1);
        int[] bounds = {0, 3, 4, -1};
        for (int k : bounds) {
            check.refused(x, "fold(" + k + ")", x.fold(k), 1);
            check.refused(x, "same(" + k + ")", x.same(k), 1);
        }
    }

    // ---- promise 36

    private void alikeBounds() {
        BurntWays x = Check.told("program p,q,r;line p then end;line q then end;line r then end");
        check.granted(x, "alike(0, 1)", x.alike(0, 1), 1);
        check.granted(x, "alike(0, 2)", x.alike(0, 2), 1);
        check.granted(x, "alike(1, 2)", x.alike(1, 2), 1);
        int[][] wrong = {{0, 0}, {1, 1}, {2, 2}, {1, 0}, {2, 1}, {2, 0}, {-1, 0}, {-1, 2}, {0, 3}, {2, 3}, {3, 4}, {0, -1}, {-2, -1},
            {0, 10}, {Integer.MIN_VALUE, 1}, {0, Integer.MAX_VALUE}, {1, Integer.MIN_VALUE}};
        for (int[] w : wrong) {
            check.refused(x, "alike(" + w[0] + ", " + w[1] + ")", x.alike(w[0], w[1]), 1);
        }
        x = Check.told(TEN_NAMES + ";line ka then end;line kj then end");
        check.granted(x, "alike(0, 9)", x.alike(0, 9), 1);
        check.refused(x, "alike(9, 10)", x.alike(9, 10), 1);
        x = Check.told("program p;line p then end");
        check.refused(x, "alike(0, 1) of one line", x.alike(0, 1), 1);
    }

    private void alike(String one, String other, int due) {
        BurntWays x = Check.told("program p,q,r;line p " + one + ";line q " + other + ";line r then end");
        check.granted(x, one + " alike " + other, x.alike(0, 1), due);
        x = Check.told("program p,q,r;line q " + one + ";line p " + other + ";line r then end");
        check.granted(x, other + " alike " + one, x.alike(0, 1), due);
    }

    private void alikeInAll() {
        String[] lines = {"then end", "then to r by 3", "then if d to p by 2 else q by 5", "do up a then end",
            "do up a,down b,set c 0,set d 9 then to p by 1", "do give p,give q,give r,up d then if a to r by 1 else r by 1"};
        for (String line : lines) {
            alike(line, line, 1);
        }
    }

    private void unlikeByOneThing() {
        String[] acts = {"", "do up a ", "do up b ", "do down a ", "do set a 1 ", "do set a 0 ", "do set b 1 ", "do give p ",
            "do give q ", "do up a,up a ", "do up a,up b ", "do up b,up a ", "do up a,up a,up a,up a ", "do up a,up a,up a,up b "};
        for (int i = 0; i < acts.length; i++) {
            for (int j = 0; j < acts.length; j++) {
                alike(acts[i] + "then end", acts[j] + "then end", i == j ? 1 : 0);
            }
        }
        String[] goals = {"then end", "then to p by 1", "then to q by 1", "then if a to p by 1 else p by 1",
            "then if b to p by 1 else p by 1", "then if d to p by 1 else p by 1", "then if a to q by 1 else p by 1",
            "then if a to p by 1 else q by 1", "then if a to q by 1 else q by 1"};
        for (int i = 0; i < goals.length; i++) {
            for (int j = 0; j < goals.length; j++) {
                alike(goals[i], goals[j], i == j ? 1 : 0);
            }
        }
    }

    private void alikeLaidOtherwise() {
        alike("then to r by 1", "then to r by 9", 1);
        alike("then if c to p by 1 else q by 9", "then if c to p by 9 else q by 1", 1);
        // Each to itself isn't to the same line.
        alike("then to p by 1", "then to q by 1", 0);
        alike("then to p by 1", "then to p by 1", 1);
    }

    /** What an ACT was in the program ahead is of no matter. */
    private void alikeInAnotherProgram() {
        BurntWays x = Check.told("program p,q;line p do set a 5,up a,give q,up d then end;line q do up a then to p by 7");
        check.granted(x, "alike(0, 1)", x.alike(0, 1), 0);
        check.granted(x, "another program", Check.tell(x, "program p,q;line p do up a,up b then end;line q do up a,up b then end"), 2);
        check.granted(x, "alike(0, 1) of it", x.alike(0, 1), 1);
        check.granted(x, "a third one", Check.tell(x, "program p,q;line p do give p then end;line q do give p then end"), 2);
        check.granted(x, "alike(0, 1) of it", x.alike(0, 1), 1);
        check.granted(x, "fold(0)", x.fold(0), 1);
    }

    private void alikeOfLinesNotTold() {
        BurntWays x = Check.told("program p,q,r;line p then end");
        check.granted(x, "alike(): the other isn't told", x.alike(0, 1), 0);
        check.granted(x, "alike(): neither is told", x.alike(1, 2), 0);
        check.refused(x, "unfair(): the other isn't told", x.unfair(0, 1, 0), 5);
        check.refused(x, "unfair(): neither is told", x.unfair(1, 2, 0), 5);
        x = Check.told("program p,q,r;line q then end");
        check.granted(x, "alike(): the lower isn't told", x.alike(0, 1), 0);
        check.granted(x, "fold(0)", x.fold(0), 0);
    }

    // ---- promise 37

    private void unfairBounds() {
        BurntWays x = Check.told("program p,q;line p then end;line q then end");
        for (int k = 0; k <= 3; k++) {
            check.granted(x, "unfair(0, 1, " + k + ")", x.unfair(0, 1, k), -2);
        }
        for (int k : WRONG_BOUNDS) {
            check.refused(x, "unfair(0, 1, " + k + ")", x.unfair(0, 1, k), 2);
        }
        int[][] wrong = {{0, 0}, {1, 0}, {1, 1}, {-1, 0}, {0, 2}, {1, 2}, {2, 3}, {0, -1}, {Integer.MIN_VALUE, 0},
            {0, Integer.MAX_VALUE}};
        for (int[] w : wrong) {
            check.refused(x, "unfair(" + w[0] + ", " + w[1] + ", 0)", x.unfair(w[0], w[1], 0), 1);
        }
    }

    private void unfairInOrderOfRefusals() {
        BurntWays x = Check.told("program p,q,r;line p then end;line q then to p by 1");
        check.refused(x, "1 ahead of 2", x.unfair(1, 0, 4), 1);
        check.refused(x, "1 ahead of 2 and 5", x.unfair(0, 3, -1), 1);
        check.refused(x, "2 ahead of 5", x.unfair(0, 1, 4), 2);
        check.refused(x, "2 ahead of 5, not told", x.unfair(0, 2, -1), 2);
        check.refused(x, "5", x.unfair(0, 1, 3), 5);
        check.refused(x, "5, not told", x.unfair(0, 2, 0), 5);
    }

    private void unfairFirstInput() {
        BurntWays x = Check.told(LAST_INPUT);
        check.granted(x, "alike(5, 6)", x.alike(5, 6), 1);
        check.granted(x, "unfair() by none", x.unfair(5, 6, 2), -2);
        check.granted(x, "unfair() by the last", x.unfair(5, 6, 3), 255);
        // The RUN goes to m once, and twice if p may be taken twice.
        x = Check.told("program p,q,m;line p then to m by 1;line q then to m by 1;line m do up b then to p by 9");
        for (int k = 0; k <= 3; k++) {
            check.granted(x, "unfair() by the first", x.unfair(0, 1, k), 0);
        }
        x = Check.told("program p,q,m,s;line s then end;line p then to m by 1;line q then to m by 1;"
                + "line m do up b,down a then if a to p by 9 else s by 9");
        check.granted(x, "unfair() to 1", x.unfair(0, 1, 1), -2);
        check.granted(x, "unfair() to 2: a being 2", x.unfair(0, 1, 2), 54);
        check.granted(x, "unfair() to 3: a being 2", x.unfair(0, 1, 3), 128);
    }

    private void unfairByTheEndOrACounter() {
        String names = "abcd";
        for (int i = 0; i < 4; i++) {
            BurntWays x = Check.told("program p,q,m;line p then to m by 1;line q then to m by 1;line m do up " + names.charAt(i)
                    + " then to p by 9");
            check.granted(x, "unfair() by the counter " + names.charAt(i), x.unfair(0, 1, 3), 0);
        }
        // END 2 at another line, with the same counters, is as before.
        BurntWays x = Check.told("program p,q,m;line p do set c 5 then to m by 1;line q do set c 5 then to m by 1;line m then to p by 1");
        check.granted(x, "unfair() by the line alone", x.unfair(0, 1, 3), -2);
        // With d above 0 END 2 turns into END 1, the counters being the same; into END 3, if o isn't told.
        String turns = "program p,q,m,n,o;line p do set c 0 then to m by 1;line q do set c 0 then to m by 1;"
                + "line m then if d to n by 1 else o by 1;line n do set d 0 then to p by 1";
        String[] goals = {";line o then end", ""};
        for (String goal : goals) {
            x = Check.told(turns + goal);
            check.granted(x, "unfair() to 0", x.unfair(0, 1, 0), -2);
            check.granted(x, "unfair() to 1 by the end" + goal, x.unfair(0, 1, 1), 1);
        }
        // p is gone 9 times, then q once, if b is 2: both together can't be laid 10 times.
        x = Check.told("program s,p,q,m,n,o;line s do set c 9 then to p by 1;line p then to m by 9;line q then to m by 9;"
                + "line m do down c then if c to p by 9 else n by 2;line n do down b then if b to q by 1 else o by 1;line o then end");
        check.granted(x, "unfair() to 1 of 9 at most", x.unfair(1, 2, 1), -2);
        check.granted(x, "unfair() to 2 of 9 at most", x.unfair(1, 2, 2), 18);
        check.granted(x, "unfair() to 3 of 9 at most", x.unfair(1, 2, 3), 32);
    }

    private void unfairMergesNothing() {
        BurntWays x = Check.told(LAST_INPUT);
        x.start(3, 3, 3, 3);
        x.steps(5);
        x.unfair(5, 6, 3);
        x.unfair(5, 6, 2);
        check.due("the RUN stays", x.now(1), 5);
        check.due("all lines are told", x.size(1), 8);
        check.due("LAID as before", x.line(5, 4), 1);
        check.granted(x, "ends(3, 2) as before", x.ends(3, 2), 1);
        check.granted(x, "unfair(5, 6, 3) again", x.unfair(5, 6, 3), 255);
    }

    // ---- promise 38

    private void foldBounds() {
        for (int k = 0; k <= 3; k++) {
            BurntWays x = Check.told("program p,q;line p then end;line q then end");
            for (int wrong : WRONG_BOUNDS) {
                check.refused(x, "fold(" + wrong + ")", x.fold(wrong), 2);
                check.due("nothing is MERGED", x.size(1), 2);
            }
            check.granted(x, "fold(" + k + ")", x.fold(k), 1);
            check.granted(x, "fold(" + k + ") again", x.fold(k), 0);
        }
    }

    private void foldNothing() {
        BurntWays x = Check.told("program p");
        check.granted(x, "fold(3) without a line told", x.fold(3), 0);
        x = Check.told("program p;line p then end");
        check.granted(x, "fold(3) of one line", x.fold(3), 0);
        x = Check.told("program p,q;line p then to p by 1;line q then to q by 1");
        check.granted(x, "fold(3) of none ALIKE", x.fold(3), 0);
        x = Check.told("program p,q,m;line p then to m by 1;line q then to m by 1;line m do up b then to p by 9");
        check.granted(x, "fold(3) of none FAIR", x.fold(3), 0);
        check.due("all are told", x.size(1), 3);
        check.due("LAID as before", x.size(6), 11);
    }

    private void foldBeginsAnew() {
        String[] texts = {"program p,q;line p then to p by 9;line q then to q by 9", "program p,q,r;line p then to p by 9;line q then end;line r then end"};
        for (int merged = 0; merged <= 1; merged++) {
            BurntWays x = Check.told(texts[merged]);
            x.start(1, 2, 3, 4);
            x.steps(5);
            check.refused(x, "fold(4)", x.fold(4), 2);
            check.due("the RUN goes on behind a refused one", x.now(1) + x.counter(3), 9);
            check.granted(x, "fold(0)", x.fold(0), merged);
            check.due("line, STEPS, end, WAYS", x.now(0) + x.now(1) + x.now(2) + x.now(3), 0);
            check.due("counters", x.counter(0) + x.counter(1) + x.counter(2) + x.counter(3), 0);
            check.due("LEFT", x.left(0), 9);
            check.refused(x, "path(1)", x.path(1), 1);
        }
        BurntWays x = Check.told("program p,q;line q then end");
        x.fold(0);
        check.due("a RUN at a line not told has ENDED", x.now(2), 3);
    }

    private void foldAllTen() {
        StringBuilder s = new StringBuilder(TEN_NAMES);
        for (char c = 'a'; c <= 'j'; c++) {
            s.append(";line k").append(c).append(" do give kb,up a then end");
        }
        BurntWays x = Check.told(s.toString());
        check.granted(x, "fold(3) of ten", x.fold(3), 9);
        check.due("one is told", x.size(1), 1);
        check.due("lines", x.size(0), 10);
        check.due("led(0)", Check.led(x, 0), 0);
        check.due("led(1)", Check.led(x, 1), -9);
        check.granted(x, "same(3)", x.same(3), 256);
        check.granted(x, "run()", x.run(), 1);
    }

    private void foldLaysNineAtMost() {
        int[][] due = {{1, 1, 2}, {1, 7, 8}, {1, 8, 9}, {4, 5, 9}, {5, 5, 9}, {8, 9, 9}, {9, 1, 9}, {9, 9, 9}};
        for (int[] d : due) {
            BurntWays x = Check.told("program p,q,r,s;line p then end;line q then to r by " + d[0] + ";line s then to r by " + d[1]);
            check.granted(x, "fold(0)", x.fold(0), 1);
            check.due("TO by " + d[0] + " and " + d[1], x.line(1, 4), d[2]);
            check.due("no ELSE", x.line(1, 6), 0);
            check.due("all LAID", x.size(6), d[2]);
            x = Check.told("program p,q,r,s;line p then end;line q then if a to r by " + d[0] + " else p by " + d[1]
                    + ";line s then if a to r by " + d[1] + " else p by " + d[1]);
            check.granted(x, "fold(0)", x.fold(0), 1);
            check.due("TO", x.line(1, 4), d[2]);
            check.due("ELSE", x.line(1, 6), Math.min(9, 2 * d[1]));
        }
    }

    private void foldTurnsWaysAndGives() {
        BurntWays x = Check.told("program p,q,r,s;line p do give s,give r then if a to s by 1 else r by 2;"
                + "line q do give s then to s by 3;line r then end;line s then end");
        check.granted(x, "fold(0)", x.fold(0), 1);
        check.due("TO turns", x.line(0, 3), 2);
        check.due("ELSE stays", x.line(0, 5), 2);
        check.due("of another line", x.line(1, 3), 2);
        check.refused(x, "the other is told no more", x.line(3, 0), 6);
        // A WAY of the two to the other one turns to the lower one: it goes to itself.
        x = Check.told("program p,q,r;line p then end;line q then to r by 2;line r then to r by 3");
        check.granted(x, "fold(0)", x.fold(0), 1);
        check.due("to itself", x.line(1, 3), 1);
        check.due("by 5", x.line(1, 4), 5);
        // s gives r's WAY, which is q's then: p, q, s (it gives), q, s, q, s (its WAY is burnt).
        x = Check.told("program p,q,r,s,t;line p do set a 1 then to q by 9;line q do set b 1 then to s by 1;"
                + "line r do set b 1 then to s by 1;line s do give r then to q by 2");
        check.granted(x, "run()", x.run(), 4);
        check.granted(x, "fold(0)", x.fold(0), 1);
        check.granted(x, "run(): the give is of the lower one", x.run(), 7);
        check.granted(x, "most(0, 2)", x.most(0, 2), 3);
    }

    private void foldTellsTheLineNoMore() {
        BurntWays x = Check.told("program p,q,r;line p then if a to q by 1 else r by 2;line q then to p by 3;line r then to p by 4");
        check.due("WAYS", x.size(2), 4);
        check.granted(x, "fold(0)", x.fold(0), 1);
        check.due("lines", x.size(0), 3);
        check.due("told", x.size(1), 2);
        check.due("WAYS", x.size(2), 3);
        check.due("LAID", x.size(6), 10);
        check.refused(x, "left(4)", x.left(4), 1);
        check.refused(x, "most(0, 4)", x.most(0, 4), 1);
        check.refused(x, "spare(0, 4)", x.spare(0, 4), 1);
        check.granted(x, "come()", x.come(), 0b011);
        check.granted(x, "degree(2)", x.degree(2), 0);
        check.granted(x, "first(0, 2)", x.first(0, 2), -2);
        check.granted(x, "seen(3)", x.seen(3), 0b011);
        check.granted(x, "alike(1, 2)", x.alike(1, 2), 0);
        check.refused(x, "unfair(1, 2, 0)", x.unfair(1, 2, 0), 5);
        check.due("led(1)", Check.led(x, 1), 1);
        check.due("led(2)", Check.led(x, 2), -9);
        check.granted(x, "keys(): either goes to q", x.keys(), 0);
    }

    private void foldFirstByTheLowerLine() {
        // p and q (3 rounds) as well as q and r (never gone) are FAIR, not p and r.
        BurntWays x = Check.told("program p,q,r,s,t,u;line p then to s by 1;line q then to s by 2;line r then to s by 1" + TURNS);
        check.granted(x, "unfair(0, 1, 0)", x.unfair(0, 1, 0), -2);
        check.granted(x, "unfair(0, 2, 0)", x.unfair(0, 2, 0), 0);
        check.granted(x, "unfair(1, 2, 0)", x.unfair(1, 2, 0), -2);
        check.granted(x, "fold(0)", x.fold(0), 1);
        check.due("p and q are MERGED", x.line(0, 4), 3);
        check.due("r is told", x.line(2, 4), 1);
    }

    private void foldFirstByTheOtherLine() {
        // p and q as well as p and r are FAIR, but not all three.
        BurntWays x = Check.told("program p,q,r,s,t,u;line p then to s by 1;line q then to s by 2;line r then to s by 2" + TURNS);
        check.granted(x, "unfair(0, 1, 0)", x.unfair(0, 1, 0), -2);
        check.granted(x, "unfair(0, 2, 0)", x.unfair(0, 2, 0), -2);
        check.granted(x, "fold(0)", x.fold(0), 1);
        check.refused(x, "q is told no more", x.line(1, 0), 6);
        check.due("r is told", x.line(2, 4), 2);
        check.granted(x, "unfair(0, 2, 0) then", x.unfair(0, 2, 0), 0);
    }

    private void foldTillThereIsNone() {
        // Lines are ALIKE just when those that they lead to are one.
        BurntWays x = Check.told("program p,q,r,s,t,u,v;line p then if a to q by 1 else r by 1;line q then to s by 1;line r then to t by 1;"
                + "line s then to u by 1;line t then to v by 1;line u then end;line v then end");
        check.granted(x, "alike(1, 2)", x.alike(1, 2), 0);
        check.granted(x, "fold(3)", x.fold(3), 3);
        check.due("told", x.size(1), 4);
        int[] due = {0, 1, 3, 5};
        for (int i = 0; i < due.length; i++) {
            check.due("led(" + i + ")", Check.led(x, i), due[i]);
        }
        check.granted(x, "same(3)", x.same(3), 256);
        // A pair that isn't FAIR ahead of others is passed over.
        x = Check.told("program p,q,m,s,t;line p then to m by 1;line q then to m by 1;line m do up b then to p by 9;line s then end;line t then end");
        check.granted(x, "fold(0): p and q are not FAIR, s and t are", x.fold(0), 1);
        check.due("q is told", x.line(1, 4), 1);
        check.refused(x, "t is told no more", x.line(4, 0), 6);
    }

    private void foldByK() {
        BurntWays x = Check.told(LAST_INPUT);
        check.granted(x, "fold(3)", x.fold(3), 0);
        check.granted(x, "fold(2)", x.fold(2), 1);
        check.granted(x, "same(2)", x.same(2), 81);
        check.granted(x, "same(3)", x.same(3), 255);
    }

    // ---- promise 39

    private void sameBounds() {
        BurntWays x = Check.told("program p;line p then end");
        int[] due = {1, 16, 81, 256};
        for (int k = 0; k <= 3; k++) {
            check.granted(x, "same(" + k + ")", x.same(k), due[k]);
        }
        for (int k : WRONG_BOUNDS) {
            check.refused(x, "same(" + k + ")", x.same(k), 2);
        }
    }

    private void sameAsItWasTold() {
        // p and q are LAID twice once they are MERGED: two rounds more as long as b lets it.
        BurntWays x = Check.told("program p,q,m;line p do up a then to m by 1;line q do up a then to m by 1;"
                + "line m do down b then if b to p by 9 else q by 9");
        x.mark();
        check.granted(x, "fold(1)", x.fold(1), 1);
        int[] due = {1, 16, 54, 128};
        for (int k = 0; k <= 3; k++) {
            check.granted(x, "same(" + k + ")", x.same(k), due[k]);
        }
        x.mark();
        x.back(0);
        check.granted(x, "same(3) as it was told", x.same(3), 256);
        x.back(1);
        check.granted(x, "same(3) folded", x.same(3), 128);
        check.granted(x, "another program", Check.tell(x, "program p;line p do up a then end"), 1);
        check.granted(x, "same(3) of another program", x.same(3), 256);
    }

    private void sameByTheEnd() {
        // Folded by 0; with d above 0 it ENDS by end, not by 2, the counters being the same.
        BurntWays x = Check.told("program p,q,m,n,o;line p do set c 0 then to m by 1;line q do set c 0 then to m by 1;"
                + "line m then if d to n by 1 else o by 1;line n do set d 0 then to p by 1;line o then end");
        check.granted(x, "fold(0)", x.fold(0), 1);
        check.granted(x, "same(0)", x.same(0), 1);
        check.granted(x, "same(1): d above 0 ENDS otherwise", x.same(1), 8);
        check.granted(x, "same(3): d above 0 ENDS otherwise", x.same(3), 64);
        x.start(0, 0, 0, 1);
        x.run();
        check.due("now by end, d being 0", x.now(2) * 10 + x.counter(3), 10);
    }
}
