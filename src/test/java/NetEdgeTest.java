/** The edges that the document names of the net: promises 25 to 30 and 35. */
public final class NetEdgeTest {
    private static final String TEN_NAMES = "program ka,kb,kc,kd,ke,kf,kg,kh,ki,kj";
    private static final int[] FAR_NUMBERS = {Integer.MIN_VALUE, -1000, -2, 1000, Integer.MAX_VALUE};

    private final Check check = new Check("NetEdgeTest");

    public static void main(String[] args) {
        NetEdgeTest test = new NetEdgeTest();
        test.withoutProgram();
        test.comeToAll();
        test.comeToOne();
        test.comeWhateverTheCounters();
        test.evenWithoutWays();
        test.evenAllAsMany();
        test.evenOneMore();
        test.evenOnBothSides();
        test.evenHangsTogether();
        test.degreeBounds();
        test.degreeLeastAndMost();
        test.trailsLeastAndMost();
        test.trailBounds();
        test.trailIsTheFirst();
        test.trailBehindAFold();
        test.keysOfARow();
        test.keysThatAreNone();
        test.loopBounds();
        test.loopOfAllNumbers();
        test.loopIsGone();
        test.check.end();
    }

    /** Ten lines, each to the next, the last to the first, so many times. */
    private static String row(int laid, boolean isRing) {
        StringBuilder s = new StringBuilder(TEN_NAMES);
        for (int i = 0; i < (isRing ? 10 : 9); i++) {
            s.append(";line k").append((char) ('a' + i)).append(" then to k").append((char) ('a' + (i + 1) % 10))
                    .append(" by ").append(laid);
        }
        return s.toString();
    }

    /** Ten lines, both WAYS of each to the same line, 9 times each. */
    private static String allTo(String name) {
        StringBuilder s = new StringBuilder(TEN_NAMES);
        for (int i = 0; i < 10; i++) {
            s.append(";line k").append((char) ('a' + i)).append(" then if a to ").append(name).append(" by 9 else ")
                    .append(name).append(" by 9");
        }
        return s.toString();
    }

    private void withoutProgram() {
        BurntWays x = new BurntWays();
        check.refused(x, "come()", x.come(), 1);
        check.refused(x, "even()", x.even(), 1);
        check.due("degree(0)", x.degree(0), -1000);
        check.due("degree(0), trouble()", x.trouble(), 1);
        check.refused(x, "trails()", x.trails(), 1);
        check.refused(x, "trail(0)", x.trail(0), 1);
        check.refused(x, "trail(-1)", x.trail(-1), 1);
        check.refused(x, "keys()", x.keys(), 1);
    }

    // ---- promise 25

    private void comeToAll() {
        BurntWays x = Check.told(row(1, false));
        check.granted(x, "come() to all ten", x.come(), 0b1111111111);
        // The last line is come to by the one ahead in the text.
        x = Check.told("program p,q,r,s;line s then to q by 1;line p then if a to p by 1 else s by 1;line q then to r by 1");
        check.granted(x, "come() in any order", x.come(), 0b1111);
    }

    private void comeToOne() {
        BurntWays x = Check.told("program p");
        check.granted(x, "come() without a line told", x.come(), 1);
        x = Check.told("program p,q;line p then end;line q then to p by 9");
        check.granted(x, "come() to the first alone", x.come(), 1);
        x = Check.told("program p,q;line p then to p by 1");
        check.granted(x, "come() to itself", x.come(), 1);
        x = Check.told(TEN_NAMES + ";line ka then to kj by 1");
        check.granted(x, "come() to the tenth", x.come(), 0b1000000001);
    }

    private void comeWhateverTheCounters() {
        BurntWays x = Check.told("program p,q,r;line p do set a 0 then if a to q by 1 else r by 1");
        check.granted(x, "come() to q, though no RUN does", x.come(), 0b111);
        check.granted(x, "seen(3)", x.seen(3), 0b101);
        // All RUNS but one STEP end; the WAY behind it counts.
        x = Check.told("program p,q,r;line p then if a to p by 1 else q by 1;line q then to r by 1");
        x.start(0, 0, 0, 0);
        x.run();
        check.granted(x, "come() though all is burnt", x.come(), 0b111);
    }

    // ---- promise 26

    private void evenWithoutWays() {
        BurntWays x = Check.told("program p");
        check.granted(x, "even() without a line told", x.even(), 1);
        x = Check.told("program p,q,r;line p then end;line r then end");
        check.granted(x, "even() of lines that end", x.even(), 1);
    }

    private void evenAllAsMany() {
        for (int laid = 1; laid <= 9; laid += 4) {
            BurntWays x = Check.told(row(laid, true));
            check.granted(x, "even() of a ring by " + laid, x.even(), 1);
        }
        BurntWays x = Check.told("program p;line p then if a to p by 3 else p by 8");
        check.granted(x, "even() of WAYS to the line itself", x.even(), 1);
        x = Check.told("program p,q,r;line p then if a to q by 4 else r by 3;line q then to p by 4;line r then to p by 3");
        check.granted(x, "even() of two rings", x.even(), 1);
        x = Check.told("program p,q,r,s;line p then to q by 2;line q then to p by 2;line s then end");
        check.granted(x, "even(): lines without WAYS needn't hang there", x.even(), 1);
    }

    private void evenOneMore() {
        BurntWays x = Check.told(row(1, false));
        check.granted(x, "even() of a row: one more at the first, one less at the last", x.even(), 1);
        x = Check.told("program p,q;line p then to q by 9;line q then to p by 8");
        check.granted(x, "even(): 9 and 8", x.even(), 1);
        x = Check.told("program p,q,r;line p then to q by 1;line q then if a to q by 9 else r by 1");
        check.granted(x, "even(): one less at a line that isn't told", x.even(), 1);
    }

    private void evenOnBothSides() {
        int[][] due = {{1, 1, 1}, {2, 1, 1}, {3, 1, 0}, {1, 2, 0}, {9, 9, 1}, {9, 8, 1}, {9, 7, 0}, {8, 9, 0}, {1, 9, 0}};
        for (int[] d : due) {
            BurntWays x = Check.told("program p,q;line p then to q by " + d[0] + ";line q then to p by " + d[1]);
            check.granted(x, "even() of " + d[0] + " and " + d[1], x.even(), d[2]);
        }
        BurntWays x = Check.told(row(2, false));
        check.granted(x, "even() of a row by 2", x.even(), 0);
        // One more at another line than the first.
        x = Check.told("program p,q,r;line p then to p by 1;line q then if a to p by 1 else r by 1;line r then to q by 1");
        check.granted(x, "even(): one more at q, one less at p", x.even(), 0);
        x = Check.told("program p,q,r;line p then to q by 1;line q then if a to p by 1 else r by 2;line r then to q by 1");
        check.granted(x, "even(): one more at q, one less at r", x.even(), 0);
        // One more at the first, one less at two, one more at another.
        x = Check.told("program p,q,r,s;line p then to q by 1;line r then to s by 1");
        check.granted(x, "even(): one more at two", x.even(), 0);
        x = Check.told("program p,q,r;line p then if a to q by 1 else r by 1");
        check.granted(x, "even(): two more at the first, one less at two", x.even(), 0);
        x = Check.told("program p,q,r,s,t;line p then to q by 2;line q then if a to r by 1 else s by 1;line r then to p by 1");
        check.granted(x, "even(): one more, one less", x.even(), 1);
        x = Check.told("program p,q,r,s,t;line p then to q by 2;line q then if a to r by 1 else s by 1;line r then to t by 1");
        check.granted(x, "even(): two more, one less at two", x.even(), 0);
    }

    private void evenHangsTogether() {
        BurntWays x = Check.told("program p,q,r,s;line p then to q by 1;line q then to p by 1;line r then to s by 1;line s then to r by 1");
        check.granted(x, "even(): two rings apart", x.even(), 0);
        check.granted(x, "trails() of them", x.trails(), -2);
        x = Check.told("program p,q;line q then to q by 1");
        check.granted(x, "even(): not with the first, which isn't told", x.even(), 0);
        x = Check.told("program p,q;line p then end;line q then to q by 1");
        check.granted(x, "even(): not with the first, which ends", x.even(), 0);
        x = Check.told("program p,q;line p then to q by 1;line q then to q by 1");
        check.granted(x, "even(): with the first", x.even(), 1);
        // They hang together by a WAY that leads the other way round.
        x = Check.told("program p,q,r;line p then if a to q by 1 else r by 1;line q then to p by 1;line r then to p by 1");
        check.granted(x, "even(): with the first by both", x.even(), 1);
        x = Check.told("program ka,kb,kc,kd,ke,kf,kg,kh,ki,kj;line ka then to kj by 1;line kj then to ki by 1;line ki then to kh by 1;"
                + "line kh then to kg by 1;line kg then to kf by 1;line kf then to ke by 1;line ke then to kd by 1;"
                + "line kd then to kc by 1;line kc then to kb by 1");
        check.granted(x, "even() of a row from the end to the front", x.even(), 1);
        check.granted(x, "trail(8) of it", x.trail(8), 4);
    }

    // ---- promise 27

    private void degree(BurntWays x, int line, int due) {
        check.granted(x, "degree(" + line + ")", x.degree(line), due);
    }

    private void degreeBounds() {
        BurntWays x = Check.told("program p,q,r;line p then if a to q by 2 else r by 3;line q then to q by 4");
        degree(x, 0, 5);
        degree(x, 1, -2);
        degree(x, 2, -3);
        int[] wrong = {-1, 3, 9, 10};
        for (int line : wrong) {
            check.due("degree(" + line + ")", x.degree(line), -1000);
            check.due("degree(" + line + "), trouble()", x.trouble(), 1);
        }
        for (int line : FAR_NUMBERS) {
            check.due("degree(" + line + ")", x.degree(line), -1000);
            check.due("degree(" + line + "), trouble()", x.trouble(), 1);
        }
        x = Check.told(row(1, false));
        degree(x, 0, 1);
        degree(x, 9, -1);
        check.due("degree(10)", x.degree(10), -1000);
    }

    private void degreeLeastAndMost() {
        BurntWays x = Check.told(allTo("ka"));
        degree(x, 0, -162);
        degree(x, 1, 18);
        degree(x, 9, 18);
        x = Check.told("program p,q;line p then to q by 1;line q then to p by 2");
        degree(x, 0, -1);
        check.due("-1 isn't refused", x.trouble(), 0);
        x = Check.told("program p,q");
        degree(x, 0, 0);
        degree(x, 1, 0);
        x = Check.told("program p;line p then if a to p by 9 else p by 9");
        degree(x, 0, 0);
    }

    // ---- promises 28 and 29

    private void trailsLeastAndMost() {
        BurntWays x = Check.told("program p");
        check.granted(x, "trails() without WAYS", x.trails(), 0);
        x = Check.told("program p;line p then to p by 1");
        check.granted(x, "trails() of one", x.trails(), 1);
        x = Check.told(row(9, true));
        check.granted(x, "trails() of a ring", x.trails(), 90);
        StringBuilder s = new StringBuilder(TEN_NAMES);
        for (int i = 0; i < 10; i++) {
            String next = "k" + (char) ('a' + (i + 1) % 10);
            s.append(";line k").append((char) ('a' + i)).append(" then if a to ").append(next).append(" by 9 else ")
                    .append(next).append(" by 9");
        }
        x = Check.told(s.toString());
        check.granted(x, "trails() of all that can be laid", x.trails(), 180);
        check.granted(x, "trail(179)", x.trail(179), 19);
        check.refused(x, "trail(180)", x.trail(180), 1);
        x = Check.told(row(2, false));
        check.granted(x, "trails() if it isn't EVEN", x.trails(), -2);
    }

    private void trailBounds() {
        BurntWays x = Check.told("program p,q;line p then to q by 2;line q then to p by 1");
        int[] due = {0, 2, 0};
        for (int i = 0; i < due.length; i++) {
            check.granted(x, "trail(" + i + ")", x.trail(i), due[i]);
        }
        check.refused(x, "trail(-1)", x.trail(-1), 1);
        check.refused(x, "trail(3)", x.trail(3), 1);
        for (int i : FAR_NUMBERS) {
            check.refused(x, "trail(" + i + ")", x.trail(i), 1);
        }
        x = Check.told("program p,q;line p then to q by 3;line q then to p by 1");
        check.refused(x, "trail(0), not EVEN", x.trail(0), 6);
        check.refused(x, "trail(9), not EVEN", x.trail(9), 6);
        check.refused(x, "trail(1000), not EVEN", x.trail(1000), 6);
        check.refused(x, "trail(-1), not EVEN", x.trail(-1), 1);
        x = Check.told("program p");
        check.refused(x, "trail(0) without WAYS", x.trail(0), 1);
    }

    private void trailIs(String text, int... due) {
        BurntWays x = Check.told(text);
        check.granted(x, text + ", trails()", x.trails(), due.length);
        for (int i = 0; i < due.length; i++) {
            check.granted(x, text + ", trail(" + i + ")", x.trail(i), due[i]);
        }
        check.refused(x, text + ", trail() behind all", x.trail(due.length), 1);
    }

    private void trailIsTheFirst() {
        trailIs("program p;line p then if a to p by 2 else p by 3", 0, 0, 1, 1, 1);
        trailIs("program p,q;line p then if a to q by 1 else p by 2;line q then to p by 1", 0, 2, 1, 1);
        // The WAY of the lesser number leads to the end: it is the last.
        trailIs("program p,q;line p then if a to q by 1 else p by 2", 1, 1, 0);
        trailIs("program p,q,r;line p then if a to r by 1 else q by 2;line q then to p by 2", 1, 2, 1, 2, 0);
        // It is the last but for what hangs at its other side.
        trailIs("program p,q;line p then if a to q by 1 else p by 1;line q then to q by 2", 1, 0, 2, 2);
        // Laid twice it may be gone at once.
        trailIs("program p,q;line p then if a to q by 2 else p by 1;line q then to p by 1", 0, 2, 1, 0);
        trailIs("program p,q,r;line p then if a to q by 1 else r by 1;line q then to p by 1;line r then to p by 1", 0, 2, 1, 4);
        trailIs("program p,q,r;line p then to q by 2;line q then if a to p by 1 else r by 1", 0, 2, 0, 3);
        trailIs("program p,q,r;line p then to q by 2;line q then if a to r by 1 else p by 1", 0, 3, 0, 2);
    }

    private void trailBehindAFold() {
        BurntWays x = Check.told("program p,q,r;line p then if a to q by 1 else r by 1;line q then to p by 1;line r then to p by 1");
        check.granted(x, "trail(3)", x.trail(3), 4);
        x.mark();
        check.granted(x, "fold(0)", x.fold(0), 1);
        check.granted(x, "trail(3), folded", x.trail(3), 2);
        check.granted(x, "trails(), folded", x.trails(), 4);
        x.back(0);
        check.granted(x, "trail(3) as it was", x.trail(3), 4);
        Check.tell(x, "program p,q,r;line p then to q by 2");
        check.granted(x, "trails() of another program", x.trails(), -2);
        check.refused(x, "trail(0) of another program", x.trail(0), 6);
    }

    // ---- promise 30

    private void keysOfARow() {
        BurntWays x = Check.told(row(9, true));
        check.granted(x, "keys() of a ring: all but the last", x.keys(), 0b00010101010101010101);
        x = Check.told(row(1, false));
        check.granted(x, "keys() of a row", x.keys(), 0b00010101010101010101);
        x = Check.told(TEN_NAMES + ";line ka then to kj by 1;line kj then if a to ka by 1 else kb by 1");
        check.granted(x, "keys(): the last WAY", x.keys(), 1 << 19 | 1);
        // Without a WAY that is LAID 9 times, all 9 are gone.
        x = Check.told("program p,q;line p then if a to p by 1 else q by 9");
        check.granted(x, "keys(): all that it is LAID", x.keys(), 0b10);
    }

    private void keysThatAreNone() {
        BurntWays x = Check.told("program p");
        check.granted(x, "keys() without WAYS", x.keys(), 0);
        x = Check.told("program p,q;line p then if a to q by 1 else q by 1");
        check.granted(x, "keys(): either does", x.keys(), 0);
        x = Check.told("program p,q;line p then to p by 1;line q then to p by 1");
        check.granted(x, "keys(): q isn't come to", x.keys(), 0);
        x = Check.told("program p,q,r,s;line p then if a to q by 1 else r by 1;line q then to s by 1;line r then to s by 1");
        check.granted(x, "keys(): s is come to by two", x.keys(), 0b11);
        x = Check.told("program p,q,r,s;line p then if a to q by 1 else r by 1;line q then to r by 1;line r then to q by 1");
        check.granted(x, "keys(): each by the other", x.keys(), 0);
    }

    // ---- promise 35

    private void loopBounds() {
        BurntWays x = new BurntWays();
        int[][] good = {{1, 1, 1}, {1, 9, 1}, {1, 10, 1}, {1, 11, 2}, {1, 20, 2}, {1, 21, 3}, {1, 99, 10}, {2, 1, 2}, {2, 9, 2},
            {2, 10, 4}, {2, 18, 4}, {2, 19, 6}, {9, 1, 9}, {9, 90, 90}, {9, 91, 99}, {9, 99, 99}};
        for (int[] g : good) {
            check.granted(x, "loop(" + g[0] + ", " + g[1] + ")", x.loop(g[0], g[1]), g[2]);
        }
        int[][] wrong = {{0, 1}, {10, 1}, {1, 0}, {1, 100}, {9, 0}, {9, 100}, {0, 99}, {10, 99}, {-1, 1}, {1, -1}, {0, 0},
            {Integer.MIN_VALUE, 1}, {1, Integer.MIN_VALUE}, {Integer.MAX_VALUE, 1}, {1, Integer.MAX_VALUE}};
        for (int[] w : wrong) {
            check.refused(x, "loop(" + w[0] + ", " + w[1] + ")", x.loop(w[0], w[1]), 2);
        }
        x = Check.told("program p");
        check.granted(x, "loop(3, 10) with a PROGRAM", x.loop(3, 10), 6);
    }

    private void loopOfAllNumbers() {
        for (int lines = 1; lines <= 9; lines++) {
            BurntWays x = new BurntWays();
            int copies = 1;
            int roundsLeft = lines == 1 ? 10 : 9;
            for (int rounds = 1; rounds <= 99; rounds++) {
                if (roundsLeft == 0) {
                    copies++;
                    roundsLeft = lines == 1 ? 10 : 9;
                }
                roundsLeft--;
                check.granted(x, "loop(" + lines + ", " + rounds + ")", x.loop(lines, rounds), lines * copies);
            }
        }
    }

    /** Rings that are laid as LOOP says are gone as often. */
    private void loopIsGone() {
        BurntWays x = Check.told("program p;line p do up a then to p by 9");
        x.run();
        check.due("a ring of one goes 10 rounds", x.counter(0), 10);
        // The copies are gone one behind the other, as long as b tells it: d counts the rounds.
        x = Check.told("program p,q;line p do up d then if b to p by 9 else q by 1;line q do up d then to q by 9");
        x.start(0, 1, 0, 0);
        x.run();
        check.due("b stays: 10 rounds of the first copy", x.counter(3), 10);
        x = Check.told("program p,q,r;line p do up d then to q by 9;line q then to p by 9");
        x.run();
        check.due("a ring of two ends at its first line, behind 9 rounds", x.counter(3) * 100 + x.now(3), 1018);
    }
}
