/** The edges that the document names of what is seen: promises 1 and 42 to 45, and the 512 calls. */
public final class SeenEdgeTest {
    private static final String TEN_NAMES = "program ka,kb,kc,kd,ke,kf,kg,kh,ki,kj";
    private static final int[] FAR_NUMBERS = {Integer.MIN_VALUE, -1000, -2, 1000, Integer.MAX_VALUE};

    private final Check check = new Check("SeenEdgeTest");

    public static void main(String[] args) {
        SeenEdgeTest test = new SeenEdgeTest();
        test.newObject();
        test.objectsAreApart();
        test.lineBounds();
        test.lineOfEachKind();
        test.lineLeastAndMost();
        test.lineOfLinesNotTold();
        test.ledBounds();
        test.ledByNumbers();
        test.sizeBounds();
        test.sizeLeastAndMost();
        test.sizeBehindAFold();
        test.troubleOfEachNumber();
        test.troubleOfCallsThatMayBeRefused();
        test.troubleStays();
        test.lastCalls();
        test.check.end();
    }

    /** Ten lines with both WAYS 9 times, four ACTS each, six wants. */
    private static String full() {
        StringBuilder s = new StringBuilder(TEN_NAMES);
        for (int i = 0; i < 10; i++) {
            String next = "k" + (char) ('a' + (i + 1) % 10);
            s.append(";line k").append((char) ('a' + i)).append(" do up a,up b,up c,up d then if a to ").append(next)
                    .append(" by 9 else ").append(next).append(" by 9");
        }
        return s + ";want 0,0,0,0 is 0".repeat(6);
    }

    // ---- promise 1

    private void newObject() {
        BurntWays x = new BurntWays();
        check.due("trouble()", x.trouble(), 0);
        check.due("fault()", x.fault(), 0);
        check.due("where()", x.where(), -1);
        for (int what = 0; what <= 6; what++) {
            check.due("size(" + what + ")", x.size(what), 0);
        }
        check.refused(x, "run(): no PROGRAM", x.run(), 1);
        check.due("led(0)", Check.led(x, 0), -9);
        check.refused(x, "line(0, 0)", x.line(0, 0), 1);
        check.refused(x, "come()", x.come(), 1);
        check.refused(x, "a faulty text makes no PROGRAM", Check.tell(x, "program p,p"), 4);
        check.refused(x, "run(): still no PROGRAM", x.run(), 1);
        check.due("no lines of a faulty text", x.size(0), 0);
        check.refused(x, "wants of a faulty text", Check.tell(x, "want 0,0,0,0 is 0"), 4);
        check.due("no wants of a faulty text", x.size(3), 0);
    }

    private void objectsAreApart() {
        BurntWays one = Check.told("program p;line p do up a then to p by 9");
        BurntWays other = new BurntWays();
        one.steps(3);
        one.mark();
        check.due("the other has no PROGRAM", other.size(0) + other.size(4), 0);
        Check.tell(other, "program p,q,r");
        check.due("the one stays", one.size(0) * 100 + one.counter(0) * 10 + one.size(4), 131);
    }

    // ---- promise 42

    private void lineBounds() {
        BurntWays x = Check.told("program p,q;line p then to q by 5;line q then end");
        for (int what = 0; what <= 6; what++) {
            check.refused(x, "line(-1, " + what + ")", x.line(-1, what), 1);
            check.refused(x, "line(2, " + what + ")", x.line(2, what), 1);
        }
        check.granted(x, "line(0, 0)", x.line(0, 0), 0);
        check.granted(x, "line(1, 6)", x.line(1, 6), 0);
        check.refused(x, "line(0, -1)", x.line(0, -1), 1);
        check.refused(x, "line(0, 7)", x.line(0, 7), 1);
        for (int n : FAR_NUMBERS) {
            check.refused(x, "line(" + n + ", 0)", x.line(n, 0), 1);
            check.refused(x, "line(0, " + n + ")", x.line(0, n), 1);
        }
        x = Check.told(full());
        check.granted(x, "line(9, 6)", x.line(9, 6), 9);
        check.refused(x, "line(10, 0)", x.line(10, 0), 1);
        x = new BurntWays();
        check.refused(x, "line(0, 0) without a PROGRAM", x.line(0, 0), 1);
    }

    private void line(BurntWays x, int line, int... due) {
        for (int what = 0; what <= 6; what++) {
            check.granted(x, "line(" + line + ", " + what + ")", x.line(line, what), due[what]);
        }
    }

    private void lineOfEachKind() {
        BurntWays x = Check.told("program p,q,r,s,t;line p then end;line q do up a then to t by 4;"
                + "line r do up a,down b then if a to p by 1 else r by 9;line s do up a,up b,up c then if d to t by 6 else s by 2;"
                + "line t do give p,give q,set d 0,set a 9 then to p by 1");
        line(x, 0, 0, 0, -2, -2, 0, -2, 0);
        line(x, 1, 1, 1, -2, 4, 4, -2, 0);
        line(x, 2, 2, 2, 0, 0, 1, 2, 9);
        line(x, 3, 3, 2, 3, 4, 6, 3, 2);
        line(x, 4, 4, 1, -2, 0, 1, -2, 0);
    }

    private void lineLeastAndMost() {
        BurntWays x = Check.told(full());
        line(x, 0, 4, 2, 0, 1, 9, 1, 9);
        line(x, 9, 4, 2, 0, 0, 9, 0, 9);
        x = Check.told("program p;line p then if b to p by 1 else p by 1");
        line(x, 0, 0, 2, 1, 0, 1, 0, 1);
        x = Check.told("program p;line p then if c to p by 1 else p by 1");
        line(x, 0, 0, 2, 2, 0, 1, 0, 1);
    }

    private void lineOfLinesNotTold() {
        BurntWays x = Check.told("program p,q;line q then end");
        for (int what = 0; what <= 6; what++) {
            check.refused(x, "line(0, " + what + ")", x.line(0, what), 6);
        }
        check.refused(x, "line(0, 7): 1 ahead of 6", x.line(0, 7), 1);
        check.refused(x, "line(0, -1): 1 ahead of 6", x.line(0, -1), 1);
    }

    // ---- promise 43

    private void ledBounds() {
        BurntWays x = Check.told(full());
        for (int i = 0; i < 10; i++) {
            check.due("led(" + i + ")", Check.led(x, i), i);
        }
        int[] wrong = {-1, 10, 11};
        for (int i : wrong) {
            check.due("led(" + i + ")", Check.led(x, i), -9);
        }
        for (int i : FAR_NUMBERS) {
            check.due("led(" + i + ")", Check.led(x, i), -9);
        }
        x = Check.told("program p");
        check.due("led(0) of none", Check.led(x, 0), -9);
        check.due("led(-1) of none", Check.led(x, -1), -9);
    }

    private void ledByNumbers() {
        BurntWays x = Check.told("program p,q,r,s,t;line t then end;line q then to t by 1;line r then end");
        int[] due = {1, 2, 4, -9};
        for (int i = 0; i < due.length; i++) {
            check.due("led(" + i + ")", Check.led(x, i), due[i]);
        }
        x.mark();
        check.granted(x, "fold(0)", x.fold(0), 1);
        int[] folded = {1, 2, -9, -9};
        for (int i = 0; i < folded.length; i++) {
            check.due("led(" + i + ") folded", Check.led(x, i), folded[i]);
        }
        x.back(0);
        check.due("led(2) as it was", Check.led(x, 2), 4);
    }

    // ---- promise 44

    private void sizeBounds() {
        BurntWays x = Check.told(full());
        check.due("size(-1)", x.size(-1), -1);
        check.due("size(7)", x.size(7), -1);
        for (int what : FAR_NUMBERS) {
            check.due("size(" + what + ")", x.size(what), -1);
        }
        x = new BurntWays();
        check.due("size(-1) of a new object", x.size(-1), -1);
        check.due("size(7) of a new object", x.size(7), -1);
    }

    private void sizeLeastAndMost() {
        BurntWays x = Check.told("program p");
        int[] least = {1, 0, 0, 0, 0, 0, 0};
        for (int what = 0; what <= 6; what++) {
            check.due("size(" + what + ") of the least", x.size(what), least[what]);
        }
        x = Check.told(full());
        for (int i = 0; i < 4; i++) {
            x.mark();
        }
        for (int i = 0; i < 45; i++) {
            x.feed(0, 0, 0, 0, 0);
        }
        int[] most = {10, 10, 20, 6, 4, 900, 180};
        for (int what = 0; what <= 6; what++) {
            check.due("size(" + what + ") of the most", x.size(what), most[what]);
        }
    }

    private void sizeBehindAFold() {
        BurntWays x = Check.told("program p,q,r,s;line p then to q by 1;line q then if a to r by 9 else p by 2;"
                + "line r then if a to r by 3 else p by 4;want 0,0,0,0 is 0");
        int[] due = {4, 3, 5, 1, 0, 0, 19};
        for (int what = 0; what <= 6; what++) {
            check.due("size(" + what + ")", x.size(what), due[what]);
        }
        x.mark();
        check.granted(x, "fold(0)", x.fold(0), 1);
        int[] folded = {4, 2, 3, 1, 1, 0, 16};
        for (int what = 0; what <= 6; what++) {
            check.due("size(" + what + ") folded", x.size(what), folded[what]);
        }
        x.back(0);
        check.due("size(6) as it was", x.size(6), 19);
        x.run();
        check.due("size(6) with burnt WAYS", x.size(6), 19);
        check.due("size(2) with burnt WAYS", x.size(2), 5);
    }

    // ---- promise 45

    private void troubleOfEachNumber() {
        BurntWays x = new BurntWays();
        check.due("0 of a new object", x.trouble(), 0);
        x.run();
        check.due("1", x.trouble(), 1);
        x.program(1);
        check.due("2", x.trouble(), 2);
        x.program(0);
        check.due("4", x.trouble(), 4);
        Check.tell(x, "program p,q;line p then to q by 2");
        check.due("0", x.trouble(), 0);
        for (int i = 0; i < 4; i++) {
            x.mark();
        }
        check.due("0 of the fourth MARK", x.trouble(), 0);
        x.mark();
        check.due("3", x.trouble(), 3);
        x.answer(0, 0, 0, 0);
        check.due("5", x.trouble(), 5);
        x.trail(0);
        check.due("6", x.trouble(), 6);
        x.whole(0);
        check.due("0 of -2", x.trouble(), 0);
    }

    /** Each call that may be refused and isn't makes TROUBLE 0. */
    private void troubleOfCallsThatMayBeRefused() {
        BurntWays x = Check.told("program p,q,r;line p then to p by 9;line q then end;line r then end;want 0,0,0,0 is 0");
        x.mark();
        Runnable[] calls = {
            () -> x.start(0, 0, 0, 0), () -> x.steps(1), () -> x.run(), () -> x.now(0), () -> x.counter(0), () -> x.left(0),
            () -> x.burnt(), () -> x.path(0), () -> x.parted(0, 1), () -> x.mark(), () -> x.back(0), () -> x.must(0),
            () -> x.unburnt(0), () -> x.whole(0), () -> x.longest(0), () -> x.longestAt(0), () -> x.ends(0, 1), () -> x.wanted(),
            () -> x.come(), () -> x.even(), () -> x.degree(0), () -> x.trails(), () -> x.trail(0), () -> x.keys(), () -> x.seen(0),
            () -> x.first(0, 0), () -> x.most(0, 0), () -> x.spare(0, 0), () -> x.loop(1, 1), () -> x.alike(0, 1),
            () -> x.unfair(1, 2, 0), () -> x.fold(0), () -> x.same(0), () -> x.least(1), () -> x.leastLine(1, 0), () -> x.line(0, 0),
            () -> Check.tell(x, "program p;line p then end"), () -> x.answer(0, 0, 0, 0),
        };
        for (int i = 0; i < calls.length; i++) {
            x.start(100, 0, 0, 0);
            check.due("2 ahead of call " + i, x.trouble(), 2);
            calls[i].run();
            check.due("0 behind call " + i, x.trouble(), 0);
        }
    }

    private void troubleStays() {
        BurntWays x = Check.told("program p;line p then end");
        int[] numbers = {1, 2, 6, 0};
        for (int number : numbers) {
            x.run();
            refuseBy(x, number);
            x.feed(0, 0, 0, 0, 0);
            check.due(number + " behind feed()", x.trouble(), number);
            x.fault();
            check.due(number + " behind fault()", x.trouble(), number);
            x.where();
            check.due(number + " behind where()", x.trouble(), number);
            x.led(0);
            check.due(number + " behind led(0)", x.trouble(), number);
            Check.led(x, 9);
            check.due(number + " behind led(9)", x.trouble(), number);
            x.size(0);
            check.due(number + " behind size(0)", x.trouble(), number);
            x.size(9);
            check.due(number + " behind size(9)", x.trouble(), number);
            check.due(number + " behind trouble()", x.trouble(), number);
        }
        for (int i = 0; i < 46; i++) {
            x.feed(0, 0, 0, 0, 0);
        }
        check.due("0 behind a feed() that is too much", x.trouble(), 0);
    }

    private static void refuseBy(BurntWays x, int number) {
        switch (number) {
            case 1:
                x.counter(4);
                break;
            case 2:
                x.must(4);
                break;
            case 6:
                x.steps(1);
                break;
            default:
                x.come();
        }
    }

    // ---- 512 calls

    private void lastCalls() {
        BurntWays x = new BurntWays();
        int calls = 0;
        for (; calls < 45; calls++) {
            check.due("feed()", x.feed(0x20202020, 0x20202020, 0x20202020, 0x20202020, 0x20202020), 20 * (calls + 1));
        }
        check.due("program() of blanks", x.program(900), -1);
        check.due("feed()", x.feed(0x70726f67, 0x72616d20, 0x703b6c69, 0x6e652070, 0x20746865), 20);
        check.due("feed()", x.feed(0x6e20746f, 0x20702062, 0x79203920, 0x20202020, 0x20202020), 40);
        check.due("program(32)", x.program(32), 1);
        calls += 4;
        for (; calls + 9 <= 511; calls += 9) {
            check.due("start()", x.start(calls % 100, 99, 0, 1), true);
            check.due("run()", x.run(), 10);
            check.due("counter(0)", x.counter(0), calls % 100);
            check.due("left(0)", x.left(0), 0);
            check.due("longest(3)", x.longest(3), 10);
            check.due("same(3)", x.same(3), 256);
            check.due("trails()", x.trails(), 9);
            check.due("steps(1)", x.steps(1), -1);
            check.due("trouble()", x.trouble(), 6);
        }
        for (; calls < 511; calls++) {
            check.due("size(6)", x.size(6), 9);
        }
        check.due("the 512th call", x.ends(3, 2), 256);
    }
}
