/** The edges that the document names of all INPUTS to a bound: promises 18 to 24 and 31 to 34. */
public final class InputEdgeTest {
    /** Comes to t just if all counters are 3. */
    private static final String LAST_INPUT = "program p,q,r,s,t,u;line p do down a,down a then if a to q by 1 else u by 1;"
            + "line q do down b,down b then if b to r by 1 else u by 1;"
            + "line r do down c,down c then if c to s by 1 else u by 1;"
            + "line s do down d,down d then if d to t by 1 else u by 1;line t then to u by 1;line u then end";
    /** Burns all WAYS just if all counters are 3. */
    private static final String LAST_BURNS = "program p,q,r,s,t;line p do down a,down a then if a to p by 1 else q by 1;"
            + "line q do down b,down b then if b to q by 1 else r by 1;"
            + "line r do down c,down c then if c to r by 1 else s by 1;"
            + "line s do down d,down d then if d to s by 1 else t by 1;line t then end";
    /** ENDS by a burnt WAY if a is above 0, else at a line not told if b is, else by end. */
    private static final String THREE_ENDS = "program p,q,r,s,t;line p then if a to q by 1 else r by 1;"
            + "line q then to q by 1;line r then if b to s by 1 else t by 1;line t then end";
    private static final String GIVEN = "program p,q;line p then to q by 1;line q do give p then end";
    private static final int[] WRONG_BOUNDS = {-1, 4, Integer.MIN_VALUE, Integer.MAX_VALUE};

    private final Check check = new Check("InputEdgeTest");

    public static void main(String[] args) {
        InputEdgeTest test = new InputEdgeTest();
        test.boundsOfK();
        test.withoutProgram();
        test.inputsInOrder();
        test.must();
        test.unburnt();
        test.takenThoughGivenBack();
        test.whole();
        test.wholeIsTheFirst();
        test.longest();
        test.longestIsTheFirst();
        test.ends();
        test.endsBounds();
        test.wantedBits();
        test.wantedAt99();
        test.wantedByEndAlone();
        test.seen();
        test.first();
        test.firstBounds();
        test.most();
        test.mostBounds();
        test.spare();
        test.spareIsLessThanAll();
        test.spareIsTheGreatest();
        test.spareKeepsTheEnds();
        test.spareTellsCountersApart();
        test.spareIsOfOneWay();
        test.spareBounds();
        test.theRunStays();
        test.boundsOneBehindTheOther();
        test.check.end();
    }

    private static int inputs(int k) {
        return (k + 1) * (k + 1) * (k + 1) * (k + 1);
    }

    // ---- k

    private void boundsOfK() {
        BurntWays x = Check.told("program p;line p then to p by 1");
        for (int k : WRONG_BOUNDS) {
            check.refused(x, "must(" + k + ")", x.must(k), 2);
            check.refused(x, "unburnt(" + k + ")", x.unburnt(k), 2);
            check.refused(x, "whole(" + k + ")", x.whole(k), 2);
            check.refused(x, "longest(" + k + ")", x.longest(k), 2);
            check.refused(x, "longestAt(" + k + ")", x.longestAt(k), 2);
            check.refused(x, "ends(" + k + ", 1)", x.ends(k, 1), 2);
            check.refused(x, "seen(" + k + ")", x.seen(k), 2);
            check.refused(x, "first(" + k + ", 0)", x.first(k, 0), 2);
            check.refused(x, "most(" + k + ", 0)", x.most(k, 0), 2);
            check.refused(x, "spare(" + k + ", 0)", x.spare(k, 0), 2);
        }
        for (int k = 0; k <= 3; k++) {
            check.granted(x, "must(" + k + ")", x.must(k), 1);
            check.granted(x, "unburnt(" + k + ")", x.unburnt(k), 0);
            check.granted(x, "whole(" + k + ")", x.whole(k), 0);
            check.granted(x, "longest(" + k + ")", x.longest(k), 2);
            check.granted(x, "longestAt(" + k + ")", x.longestAt(k), 0);
            check.granted(x, "ends(" + k + ", 2)", x.ends(k, 2), inputs(k));
            check.granted(x, "seen(" + k + ")", x.seen(k), 1);
            check.granted(x, "first(" + k + ", 0)", x.first(k, 0), 0);
            check.granted(x, "most(" + k + ", 0)", x.most(k, 0), 1);
            check.granted(x, "spare(" + k + ", 0)", x.spare(k, 0), 0);
        }
    }

    private void withoutProgram() {
        BurntWays x = new BurntWays();
        int[] bounds = {0, 3, 4, -1};
        for (int k : bounds) {
            check.refused(x, "must(" + k + ")", x.must(k), 1);
            check.refused(x, "unburnt(" + k + ")", x.unburnt(k), 1);
            check.refused(x, "whole(" + k + ")", x.whole(k), 1);
            check.refused(x, "longest(" + k + ")", x.longest(k), 1);
            check.refused(x, "longestAt(" + k + ")", x.longestAt(k), 1);
            check.refused(x, "ends(" + k + ", 1)", x.ends(k, 1), 1);
            check.refused(x, "seen(" + k + ")", x.seen(k), 1);
            check.refused(x, "first(" + k + ", 0)", x.first(k, 0), 1);
            check.refused(x, "most(" + k + ", 0)", x.most(k, 0), 1);
            check.refused(x, "spare(" + k + ", 0)", x.spare(k, 0), 1);
        }
        check.refused(x, "wanted()", x.wanted(), 1);
    }

    /** The last counter's change comes first; each goes from 0 to k. */
    private void inputsInOrder() {
        String names = "abcd";
        for (int i = 0; i < 4; i++) {
            char c = names.charAt(i);
            for (int least = 1; least <= 4; least++) {
                String acts = least == 1 ? "" : "do down " + c + (",down " + c).repeat(least - 2) + " ";
                BurntWays x = Check.told("program p,q,r;line p " + acts + "then if " + c + " to q by 1 else r by 1");
                for (int k = 0; k <= 3; k++) {
                    int one = i == 3 ? 1 : i == 2 ? k + 1 : i == 1 ? (k + 1) * (k + 1) : (k + 1) * (k + 1) * (k + 1);
                    int due = least <= k ? least * one : -2;
                    check.granted(x, "first INPUT to " + k + ", " + c + " being " + least, x.first(k, 1), due);
                }
            }
        }
    }

    // ---- promises 18 to 22

    private void must() {
        BurntWays x = Check.told(LAST_INPUT);
        check.granted(x, "must(2)", x.must(2), 0b10);
        check.granted(x, "must(3): the last INPUT alone goes otherwise", x.must(3), 0);
        x = Check.told("program p,q;line p then if d to q by 1 else q by 1");
        check.granted(x, "must(0)", x.must(0), 0b10);
        check.granted(x, "must(1)", x.must(1), 0);
        // A WAY that is taken once is taken, however often it is LAID.
        x = Check.told("program p,q;line p then to q by 9");
        check.granted(x, "must(3) of a WAY that isn't burnt", x.must(3), 1);
        x = Check.told("program p");
        check.granted(x, "must(3) without WAYS", x.must(3), 0);
        x = Check.told("program p,q;line q then to p by 1");
        check.granted(x, "must(3) of a WAY that is never taken", x.must(3), 0);
        StringBuilder s = new StringBuilder("program ka,kb,kc,kd,ke,kf,kg,kh,ki,kj");
        for (char c = 'a'; c < 'j'; c++) {
            s.append(";line k").append(c).append(" then to k").append((char) (c + 1)).append(" by 1");
        }
        x = Check.told(s + ";line kj do set a 0 then if a to ka by 1 else ka by 1");
        check.granted(x, "must(3) to the last WAY", x.must(3), 0b10010101010101010101);
        check.granted(x, "unburnt(3) of the last but one", x.unburnt(3), 1 << 18);
    }

    private void unburnt() {
        BurntWays x = Check.told(LAST_INPUT);
        check.granted(x, "unburnt(0)", x.unburnt(0), 0b111111101);
        check.granted(x, "unburnt(2)", x.unburnt(2), 0b111111101);
        check.granted(x, "unburnt(3): the last INPUT takes one alone", x.unburnt(3), 0);
        x = Check.told("program p,q;line p then to q by 9");
        check.granted(x, "unburnt(3) of a WAY that isn't burnt, but taken", x.unburnt(3), 0);
        x = Check.told("program p,q;line q then if a to p by 1 else q by 1");
        check.granted(x, "unburnt(3) of all", x.unburnt(3), 0b1100);
        x = Check.told("program p");
        check.granted(x, "unburnt(3) without WAYS", x.unburnt(3), 0);
    }

    private void takenThoughGivenBack() {
        BurntWays x = Check.told(GIVEN);
        check.granted(x, "must(0)", x.must(0), 1);
        check.granted(x, "unburnt(0)", x.unburnt(0), 0);
        check.granted(x, "whole(0)", x.whole(0), -2);
        check.granted(x, "most(0, 0)", x.most(0, 0), 1);
    }

    private void whole() {
        BurntWays x = Check.told(LAST_BURNS);
        check.granted(x, "whole(2)", x.whole(2), -2);
        check.granted(x, "whole(3): the last INPUT", x.whole(3), 255);
        x = Check.told("program p,q;line p then to q by 1");
        for (int k = 0; k <= 3; k++) {
            check.granted(x, "whole(" + k + ")", x.whole(k), 0);
        }
        x = Check.told("program p,q;line p then to q by 2");
        check.granted(x, "whole(3): one is LEFT", x.whole(3), -2);
        x = Check.told("program p,q,r;line p then to q by 1;line r then to p by 1");
        check.granted(x, "whole(3): a line isn't come to", x.whole(3), -2);
        x = Check.told("program p");
        check.granted(x, "whole(3) without WAYS", x.whole(3), 0);
        x = Check.told("program p;line p then end");
        check.granted(x, "whole(3) without WAYS, a line told", x.whole(3), 0);
    }

    private void wholeIsTheFirst() {
        BurntWays x = Check.told("program p,q;line p do down c then if c to p by 1 else q by 1");
        check.granted(x, "whole(1)", x.whole(1), -2);
        check.granted(x, "whole(2): c being 2", x.whole(2), 6);
        check.granted(x, "whole(3): c being 2", x.whole(3), 8);
    }

    private void longest() {
        BurntWays x = Check.told(LAST_BURNS);
        check.granted(x, "longest(2)", x.longest(2), 5);
        check.granted(x, "longestAt(2)", x.longestAt(2), 0);
        check.granted(x, "longest(3)", x.longest(3), 9);
        check.granted(x, "longestAt(3): the last INPUT", x.longestAt(3), 255);
        x = Check.told("program p");
        check.granted(x, "longest(3) without a STEP", x.longest(3), 0);
        check.granted(x, "longestAt(3) without a STEP", x.longestAt(3), 0);
        x = Check.told("program p;line p then end");
        check.granted(x, "longest(3) of one STEP", x.longest(3), 1);
    }

    private void longestIsTheFirst() {
        BurntWays x = Check.told("program p,q,r;line p then if b to q by 1 else r by 1;line q then to r by 1");
        check.granted(x, "longest(0)", x.longest(0), 1);
        check.granted(x, "longestAt(0)", x.longestAt(0), 0);
        check.granted(x, "longest(2)", x.longest(2), 2);
        check.granted(x, "longestAt(2): the first b above 0", x.longestAt(2), 9);
        check.granted(x, "longest(3)", x.longest(3), 2);
        check.granted(x, "longestAt(3): the first b above 0", x.longestAt(3), 16);
    }

    // ---- promises 23 and 24

    private void ends() {
        BurntWays x = Check.told(THREE_ENDS);
        for (int k = 0; k <= 3; k++) {
            int square = (k + 1) * (k + 1);
            check.granted(x, "ends(" + k + ", 1)", x.ends(k, 1), square);
            check.granted(x, "ends(" + k + ", 2)", x.ends(k, 2), k * (k + 1) * square);
            check.granted(x, "ends(" + k + ", 3)", x.ends(k, 3), k * square);
        }
        x = Check.told("program p");
        check.granted(x, "ends(3, 3): all at once", x.ends(3, 3), 256);
        x = Check.told("program p;line p then end");
        check.granted(x, "ends(3, 1): all by end", x.ends(3, 1), 256);
        check.granted(x, "ends(3, 2): none", x.ends(3, 2), 0);
    }

    private void endsBounds() {
        BurntWays x = Check.told(THREE_ENDS);
        int[] wrong = {0, 4, -1, Integer.MIN_VALUE, Integer.MAX_VALUE};
        for (int end : wrong) {
            check.refused(x, "ends(3, " + end + ")", x.ends(3, end), 1);
            check.refused(x, "ends(4, " + end + ")", x.ends(4, end), 1);
            check.refused(x, "ends(-1, " + end + ")", x.ends(-1, end), 1);
        }
        for (int end = 1; end <= 3; end++) {
            check.refused(x, "ends(4, " + end + ")", x.ends(4, end), 2);
            check.refused(x, "ends(-1, " + end + ")", x.ends(-1, end), 2);
        }
        x = new BurntWays();
        check.refused(x, "ends(4, 0) without a PROGRAM", x.ends(4, 0), 1);
    }

    private void wantedBits() {
        String one = "program p;line p do up a then end";
        BurntWays x = Check.told(one);
        check.granted(x, "wanted() without wants", x.wanted(), 0);
        x = Check.told(one + ";want 0,0,0,0 is 1;want 1,0,0,0 is 2;want 2,0,0,0 is 3;want 3,0,0,0 is 4;want 8,0,0,0 is 9;"
                + "want 9,9,9,9 is 10");
        check.granted(x, "wanted(): all six", x.wanted(), 0b111111);
        x = Check.told(one + ";want 0,0,0,0 is 0;want 1,0,0,0 is 1;want 2,0,0,0 is 4;want 3,0,0,0 is 2;want 8,0,0,0 is 99;"
                + "want 9,9,9,9 is 10");
        check.granted(x, "wanted(): the last one", x.wanted(), 0b100000);
        x = Check.told(one + ";want 0,0,0,0 is 1;want 1,0,0,0 is 1");
        check.granted(x, "wanted(): the first one", x.wanted(), 0b01);
    }

    private void wantedAt99() {
        // 9 rounds of 3 by each of b, c, d, then 8 more: 89 and a.
        String rounds = "program p,q,r,s,t,u;line p do up a,up a,up a,down b then if b to p by 9 else q by 1;"
                + "line q do up a,up a,up a,down c then if c to q by 9 else r by 1;"
                + "line r do up a,up a,up a,down d then if d to r by 9 else s by 1;"
                + "line s do up a,up a,up a,up a then to t by 1;line t do up a,up a,up a,up a then to u by 1;";
        String wants = "want 9,9,9,9 is 98;want 9,9,9,9 is 99;want 8,9,9,9 is 98;want 8,9,9,9 is 99;want 0,9,9,9 is 89";
        BurntWays x = Check.told(rounds + "line u then end;" + wants);
        check.granted(x, "wanted() of 98", x.wanted(), 0b10001);
        x = Check.told(rounds + "line u do up a then end;" + wants);
        check.granted(x, "wanted() of 99", x.wanted(), 0b00110);
        x = Check.told(rounds + "line u do up a,up a then end;" + wants);
        check.granted(x, "wanted() of 99 at most", x.wanted(), 0b01010);
    }

    private void wantedByEndAlone() {
        BurntWays x = Check.told("program p,q,r;line p then if a to q by 1 else r by 1;line q then to q by 1;"
                + "want 0,0,0,0 is 0;want 1,0,0,0 is 1");
        check.granted(x, "wanted(): a is as wanted, but by 2 and 3", x.wanted(), 0);
        x = Check.told("program p;want 0,0,0,0 is 0");
        check.granted(x, "wanted() at a line not told", x.wanted(), 0);
        // All four counters are those of the want.
        x = Check.told("program p,q,r,s,t,u;line p then if a to q by 9 else u by 9;line q then if b to r by 9 else u by 9;"
                + "line r then if c to s by 9 else u by 9;line s then if d to t by 9 else u by 9;line t do set a 5 then end;"
                + "want 1,1,1,1 is 5;want 0,1,1,1 is 5;want 1,0,1,1 is 5;want 1,1,0,1 is 5;want 1,1,1,0 is 5;want 9,9,9,9 is 5");
        check.granted(x, "wanted(): all four counters", x.wanted(), 0b100001);
    }

    // ---- promises 31 and 32

    private void seen() {
        BurntWays x = Check.told(LAST_INPUT);
        check.granted(x, "seen(0)", x.seen(0), 0b100001);
        check.granted(x, "seen(2)", x.seen(2), 0b100001);
        check.granted(x, "seen(3): all", x.seen(3), 0b111111);
        x = Check.told("program p,q;line q then to p by 1");
        check.granted(x, "seen(3): the first line, though it isn't told", x.seen(3), 0b01);
        x = Check.told("program p,q;line p then to q by 1");
        check.granted(x, "seen(0): a line that isn't told", x.seen(0), 0b11);
        x = Check.told("program ka,kb,kc,kd,ke,kf,kg,kh,ki,kj;line ka then to kj by 1");
        check.granted(x, "seen(0): the tenth line", x.seen(0), 0b1000000001);
    }

    private void first() {
        BurntWays x = Check.told(LAST_INPUT);
        int[] due = {0, 192, 240, 252, 255, 0};
        for (int line = 0; line < due.length; line++) {
            check.granted(x, "first(3, " + line + ")", x.first(3, line), due[line]);
            check.granted(x, "first(2, " + line + ")", x.first(2, line), due[line] == 0 ? 0 : -2);
        }
        x = Check.told("program p,q,r;line p then to q by 1");
        check.granted(x, "first(0, 1) of a line not told", x.first(0, 1), 0);
        check.granted(x, "first(0, 2) of a line not come to", x.first(0, 2), -2);
    }

    private void firstBounds() {
        BurntWays x = Check.told("program p,q");
        check.granted(x, "first(0, 1)", x.first(0, 1), -2);
        int[] wrong = {-1, 2, 10, 1000, Integer.MIN_VALUE, Integer.MAX_VALUE};
        for (int line : wrong) {
            check.refused(x, "first(0, " + line + ")", x.first(0, line), 1);
            check.refused(x, "first(4, " + line + ")", x.first(4, line), 1);
        }
        check.refused(x, "first(4, 1)", x.first(4, 1), 2);
        x = Check.told("program ka,kb,kc,kd,ke,kf,kg,kh,ki,kj");
        check.granted(x, "first(3, 9)", x.first(3, 9), -2);
        check.refused(x, "first(3, 10)", x.first(3, 10), 1);
    }

    // ---- promise 33

    private void most() {
        BurntWays x = Check.told("program p,q;line p do down d then if d to p by 9 else q by 9");
        int[] due = {0, 0, 1, 2};
        for (int k = 0; k <= 3; k++) {
            check.granted(x, "most(" + k + ", 0)", x.most(k, 0), due[k]);
            check.granted(x, "most(" + k + ", 1)", x.most(k, 1), 1);
        }
        x = Check.told("program p;line p then to p by 9");
        check.granted(x, "most(0, 0): as often as it is LAID", x.most(0, 0), 9);
        x = Check.told("program p,q;line p then to q by 9;line q do give p then to p by 9");
        check.granted(x, "most(0, 0): more, as it was given back", x.most(0, 0), 10);
        check.granted(x, "most(0, 2)", x.most(0, 2), 9);
        x = Check.told("program p,q;line q then to p by 9");
        check.granted(x, "most(3, 2): never", x.most(3, 2), 0);
        // The most is of one RUN, not the sum, and needn't be of the last.
        x = Check.told("program p,q,r;line p then if a to q by 1 else r by 1;line r then to r by 5");
        check.granted(x, "most(3, 4)", x.most(3, 4), 5);
    }

    private void mostBounds() {
        BurntWays x = Check.told("program p,q,r,s;line p then to q by 1;line q then if a to r by 2 else s by 3;line r then end");
        int[] good = {0, 2, 3};
        for (int way : good) {
            check.refused(x, "most(4, " + way + ")", x.most(4, way), 2);
            check.granted(x, "most(3, " + way + ")", x.most(3, way), 1);
        }
        int[] wrong = {-1, 1, 4, 5, 6, 7, 8, 20, 1000, Integer.MIN_VALUE, Integer.MAX_VALUE};
        for (int way : wrong) {
            check.refused(x, "most(3, " + way + ")", x.most(3, way), 1);
            check.refused(x, "most(4, " + way + ")", x.most(4, way), 1);
        }
    }

    // ---- promise 34

    /** Adds b to a; its WAYS are LAID 9 times. */
    private static final String WIDE_ADDER = "program top,add,out,dup;line top then if b to add by 9 else out by 9;"
            + "line add do up a,down b then to top by 9;line out then end;line dup then to top by 9";

    private void spare() {
        BurntWays x = Check.told(WIDE_ADDER);
        int[] due = {8, 8, 7, 6};
        for (int k = 0; k <= 3; k++) {
            check.granted(x, "spare(" + k + ", 0)", x.spare(k, 0), due[k]);
            check.granted(x, "spare(" + k + ", 1)", x.spare(k, 1), 8);
            check.granted(x, "spare(" + k + ", 2)", x.spare(k, 2), due[k]);
            check.granted(x, "spare(" + k + ", 6): never taken", x.spare(k, 6), 8);
        }
    }

    private void spareIsLessThanAll() {
        BurntWays x = Check.told("program p,q;line q then to p by 1");
        check.granted(x, "spare(3, 2) of one LAID once", x.spare(3, 2), 0);
        x = Check.told("program p,q;line q then to p by 2");
        check.granted(x, "spare(3, 2) of one LAID twice", x.spare(3, 2), 1);
        x = Check.told("program p;line p then to p by 9");
        check.granted(x, "spare(3, 0) of one that ENDS likewise", x.spare(3, 0), 8);
    }

    private void spareIsTheGreatest() {
        // b turns with each round: one less ENDS otherwise, two less END likewise.
        String turns = "program p,q,r,s;line p then if b to q by 9 else r by 9;line q do set b 0 then to s by 9;"
                + "line r do set b 1 then to s by 9;line s then to p by ";
        int[] due = {0, 0, 0, 2, 2, 4, 4, 6, 6, 8};
        for (int laid = 1; laid <= 9; laid++) {
            BurntWays x = Check.told(turns + laid);
            check.granted(x, "spare(0, 6) of " + laid, x.spare(0, 6), due[laid]);
        }
    }

    private void spareKeepsTheEnds() {
        // With one less it ENDS by 2, not by end, the counters being the same.
        BurntWays x = Check.told("program p,q;line p do set d 0,down b then if b to p by 2 else q by 1;line q do set b 0 then end");
        check.granted(x, "spare(1, 0)", x.spare(1, 0), 1);
        check.granted(x, "spare(2, 0)", x.spare(2, 0), 1);
        check.granted(x, "spare(3, 0)", x.spare(3, 0), 0);
        // Each of the counters counts.
        String names = "abcd";
        for (int i = 0; i < 4; i++) {
            x = Check.told("program p;line p do up " + names.charAt(i) + " then to p by 4");
            check.granted(x, "spare(0, 0), " + names.charAt(i) + " going up", x.spare(0, 0), 0);
        }
        // The last INPUT alone ENDS otherwise.
        x = Check.told("program p,q,r,s,t;line p do down a,down a then if a to q by 1 else t by 1;"
                + "line q do down b,down b then if b to r by 1 else t by 1;line r do down c,down c then if c to s by 1 else t by 1;"
                + "line s do down d then if d to s by 2 else t by 1;line t then end");
        check.granted(x, "spare(2, 6)", x.spare(2, 6), 1);
        check.granted(x, "spare(3, 6)", x.spare(3, 6), 0);
    }

    /** Nine rounds make d 99; with one less it ENDS there, else with d as y sets it, and c 1 more. */
    private void spareTellsCountersApart() {
        for (int low = 0; low <= 3; low++) {
            BurntWays x = Check.told("program s,y,x,z,v;line s do set b 9 then to y by 2;line y do set d " + low
                    + ",up c then to x by 1;line x do up d,up d,up d,up d then to z by 9;line z do up d,up d,up d,up d then to v by 9;"
                    + "line v do up d,up d,up d,down b then if b to x by 9 else s by 1");
            x.run();
            check.due("b, c, d at the end", x.counter(1) * 10000 + x.counter(2) * 100 + x.counter(3), 90200 + low);
            check.granted(x, "spare(0, 0): 99 isn't " + low + " with c 1 more", x.spare(0, 0), 0);
        }
    }

    private void spareIsOfOneWay() {
        BurntWays x = Check.told(WIDE_ADDER);
        x.spare(3, 0);
        check.due("it is LAID as before", x.line(0, 4), 9);
        check.granted(x, "most(3, 0) as before", x.most(3, 0), 3);
        check.granted(x, "spare(3, 2) as if alone", x.spare(3, 2), 6);
        check.granted(x, "spare(3, 0) again", x.spare(3, 0), 6);
        check.due("all are LAID as before", x.size(6), 36);
    }

    private void spareBounds() {
        BurntWays x = Check.told("program p,q,r,s;line p then to q by 1;line q then if a to r by 2 else s by 3;line r then end");
        int[] good = {0, 2, 3};
        for (int way : good) {
            check.refused(x, "spare(4, " + way + ")", x.spare(4, way), 2);
            check.granted(x, "spare(3, " + way + ")", x.spare(3, way), x.left(way) - 1);
        }
        int[] wrong = {-1, 1, 4, 5, 6, 7, 8, 20, 1000, Integer.MIN_VALUE, Integer.MAX_VALUE};
        for (int way : wrong) {
            check.refused(x, "spare(3, " + way + ")", x.spare(3, way), 1);
            check.refused(x, "spare(4, " + way + ")", x.spare(4, way), 1);
        }
    }

    // ---- what all of them leave as it is

    private void theRunStays() {
        BurntWays x = Check.told(WIDE_ADDER + ";want 1,2,0,0 is 3");
        x.start(7, 3, 5, 6);
        x.steps(4);
        for (int k = 0; k <= 3; k++) {
            x.must(k);
            x.unburnt(k);
            x.whole(k);
            x.longest(k);
            x.longestAt(k);
            x.ends(k, 1);
            x.seen(k);
            x.first(k, 1);
            x.most(k, 0);
            x.spare(k, 0);
            x.wanted();
        }
        check.due("line, STEPS, WAYS taken", x.now(0) * 100 + x.now(1) * 10 + x.now(3), 44);
        check.due("counters", x.counter(0) * 1000 + x.counter(1) * 100 + x.counter(2) * 10 + x.counter(3), 9156);
        check.due("LEFT", x.left(0) * 100 + x.left(1) * 10 + x.left(2), 797);
    }

    private void boundsOneBehindTheOther() {
        BurntWays x = Check.told(LAST_BURNS);
        int[] bounds = {3, 2, 3, 0, 3, 1, 2};
        for (int k : bounds) {
            check.granted(x, "longest(" + k + ")", x.longest(k), k == 3 ? 9 : 5);
            check.granted(x, "ends(" + k + ", 1)", x.ends(k, 1), inputs(k));
            check.refused(x, "longest(4)", x.longest(4), 2);
            check.granted(x, "whole(" + k + ")", x.whole(k), k == 3 ? 255 : -2);
        }
        check.granted(x, "most(3, 0)", x.most(3, 0), 1);
        check.granted(x, "most(2, 0) behind it", x.most(2, 0), 0);
        check.granted(x, "first(3, 4)", x.first(3, 4), 0);
        Check.tell(x, THREE_ENDS);
        check.granted(x, "longest(2) of another program", x.longest(2), 3);
        check.granted(x, "ends(2, 1) of another program", x.ends(2, 1), 9);
    }
}
