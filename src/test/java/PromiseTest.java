/** Each promise of the document: ordinary inputs, the edges that it names, and wrong inputs. */
public final class PromiseTest {
    /** Adds b to a, with a line that nothing leads to. */
    private static final String ADDER = "program top,add,out,dup;line top then if b to add by 3 else out by 1;"
            + "line add do up a,down b then to top by 3;line out then end;line dup do up a,down b then to top by 2;"
            + "want 1,2,0,0 is 3;want 2,0,0,0 is 2";
    /** The ways of p are given back, and p isn't come to again. */
    private static final String GIVEN = "program p,q;line p then to q by 1;line q do give p then end";
    /** Once merged, p and q go on where each alone is burnt; but not as long as b is below 2. */
    private static final String PAIR = "program p,q,m;line p do up a then to m by 1;line q do up a then to m by 1;"
            + "line m do down b then if b to p by 9 else q by 9";
    private static final int NO_PROGRAM = 1;

    private final Check check = new Check("PromiseTest");

    public static void main(String[] args) {
        PromiseTest test = new PromiseTest();
        test.newObject();
        test.feed();
        test.program();
        test.faults();
        test.places();
        test.start();
        test.steps();
        test.run();
        test.acts();
        test.gives();
        test.now();
        test.leftAndBurnt();
        test.path();
        test.answer();
        test.parted();
        test.marks();
        test.allInputs();
        test.anotherProgram();
        test.mustAndGiven();
        test.ends();
        test.wanted();
        test.comeAndKeys();
        test.evenAndDegree();
        test.trail();
        test.trailThatTurns();
        test.seenAndFirst();
        test.most();
        test.spare();
        test.loop();
        test.alike();
        test.unfair();
        test.fold();
        test.foldGives();
        test.foldInOrder();
        test.same();
        test.least();
        test.leastLine();
        test.line();
        test.led();
        test.size();
        test.trouble();
        test.check.end();
    }

    /** Ten lines in a ring, by either way 9 times; a counts down at the first. */
    private static String ring() {
        StringBuilder s = new StringBuilder("program ka,kb,kc,kd,ke,kf,kg,kh,ki,kj");
        for (int i = 0; i < 10; i++) {
            String next = "k" + (char) ('a' + (i + 1) % 10);
            s.append(";line k").append((char) ('a' + i)).append(i == 0 ? " do down a" : "")
                    .append(" then if a to ").append(next).append(" by 9 else ").append(next).append(" by 9");
        }
        return s.toString();
    }

    private void newObject() {
        BurntWays x = new BurntWays();
        check.due("trouble() of a new object", x.trouble(), 0);
        check.due("fault() of a new object", x.fault(), 0);
        check.due("where() of a new object", x.where(), -1);
        for (int what = 0; what <= 6; what++) {
            check.due("size of a new object", x.size(what), 0);
        }
        refusedWithoutProgram(x);
    }

    private void refusedWithoutProgram(BurntWays x) {
        check.due("start()", x.start(0, 0, 0, 0), false);
        check.due("start(), trouble", x.trouble(), NO_PROGRAM);
        check.due("start(100)", x.start(100, 0, 0, 0), false);
        check.due("start(100), trouble", x.trouble(), NO_PROGRAM);
        check.refused(x, "steps(0)", x.steps(0), NO_PROGRAM);
        check.refused(x, "run()", x.run(), NO_PROGRAM);
        check.refused(x, "now(0)", x.now(0), NO_PROGRAM);
        check.refused(x, "counter(0)", x.counter(0), NO_PROGRAM);
        check.refused(x, "left(0)", x.left(0), NO_PROGRAM);
        check.refused(x, "burnt()", x.burnt(), NO_PROGRAM);
        check.refused(x, "path(0)", x.path(0), NO_PROGRAM);
        check.refused(x, "answer()", x.answer(0, 0, 0, 100), NO_PROGRAM);
        check.refused(x, "parted()", x.parted(0, 0), NO_PROGRAM);
        check.refused(x, "mark()", x.mark(), NO_PROGRAM);
        check.due("back(0)", x.back(0), false);
        check.due("back(0), trouble", x.trouble(), 1);
        check.refused(x, "must(9)", x.must(9), NO_PROGRAM);
        check.refused(x, "unburnt(9)", x.unburnt(9), NO_PROGRAM);
        check.refused(x, "whole(9)", x.whole(9), NO_PROGRAM);
        check.refused(x, "longest(9)", x.longest(9), NO_PROGRAM);
        check.refused(x, "longestAt(9)", x.longestAt(9), NO_PROGRAM);
        check.refused(x, "ends(9, 1)", x.ends(9, 1), NO_PROGRAM);
        check.refused(x, "wanted()", x.wanted(), NO_PROGRAM);
        check.refused(x, "come()", x.come(), NO_PROGRAM);
        check.refused(x, "even()", x.even(), NO_PROGRAM);
        check.due("degree(0)", x.degree(0), -1000);
        check.due("degree(0), trouble", x.trouble(), 1);
        check.refused(x, "trails()", x.trails(), NO_PROGRAM);
        check.refused(x, "trail(0)", x.trail(0), NO_PROGRAM);
        check.refused(x, "keys()", x.keys(), NO_PROGRAM);
        check.refused(x, "seen(9)", x.seen(9), NO_PROGRAM);
        check.refused(x, "first(9, 0)", x.first(9, 0), NO_PROGRAM);
        check.refused(x, "most(9, 0)", x.most(9, 0), NO_PROGRAM);
        check.refused(x, "spare(9, 0)", x.spare(9, 0), NO_PROGRAM);
        check.granted(x, "loop(2, 10)", x.loop(2, 10), 4);
        check.refused(x, "alike(0, 1)", x.alike(0, 1), NO_PROGRAM);
        check.refused(x, "unfair(0, 1, 9)", x.unfair(0, 1, 9), NO_PROGRAM);
        check.refused(x, "fold(9)", x.fold(9), NO_PROGRAM);
        check.refused(x, "same(9)", x.same(9), NO_PROGRAM);
        check.refused(x, "least(0)", x.least(0), NO_PROGRAM);
        check.refused(x, "leastLine(1, 0)", x.leastLine(1, 0), NO_PROGRAM);
        check.refused(x, "line(0, 0)", x.line(0, 0), NO_PROGRAM);
        check.due("led(0)", Check.led(x, 0), -9);
    }

    private void feed() {
        BurntWays x = new BurntWays();
        for (int i = 1; i <= 45; i++) {
            check.due("feed() " + i, x.feed(0x20202020, 0x20202020, 0x20202020, 0x20202020, 0x20202020), 20 * i);
        }
        check.due("feed() 46", x.feed(1, 2, 3, 4, 5), -1);
        check.due("feed() 46, trouble", x.trouble(), 0);
        check.due("feed() 46, bytes", x.size(5), 900);
        check.refused(x, "program(901)", x.program(901), 2);
        check.due("THE TAPE stays", x.size(5), 900);
        check.refused(x, "program(900) of blanks", x.program(900), 4);
        check.due("fault() of blanks", x.fault(), 1);
        check.due("where() of blanks", x.where(), 900);
        check.due("THE TAPE is empty", x.size(5), 0);
        // The highest byte first: "prog", "ram ", "p;li", "ne p", " the"; a negative number is four bytes, too.
        x.feed(0x70726f67, 0x72616d20, 0x703b6c69, 0x6e652070, 0x20746865);
        check.due("feed() behind it", x.feed(0x6e20656e, 0x64202020, 0xffffffff, 0, 0), 40);
        check.granted(x, "program(28)", x.program(28), 1);
        check.due("the line is told", x.line(0, 1), 0);
        x.feed(0x70726f67, 0x72616d20, 0x70ffffff, 0, 0);
        check.refused(x, "program(10)", x.program(10), 4);
        check.due("where() of a byte 255", x.where(), 9);
    }

    private void program() {
        BurntWays x = new BurntWays();
        Check.feed(x, "program p,q;line p then to q by 2 rest that is dropped");
        check.granted(x, "program(33)", x.program(33), 2);
        check.due("what is behind is dropped", x.size(5), 0);
        Check.feed(x, "program pqrs");
        check.granted(x, "program(9): the NAME p alone", x.program(9), 1);
        Check.feed(x, "program endx");
        check.refused(x, "program(11): the WORD end", x.program(11), 4);
        Check.feed(x, "program p;line p then to p by 123");
        check.granted(x, "program(31): 1 alone", x.program(31), 1);
        check.due("by 1", x.line(0, 4), 1);
        Check.feed(x, "program p,q;line p then to q by 2");
        check.granted(x, "program(33)", x.program(33), 2);
        check.due("told", x.size(1), 1);
        check.due("run()", x.run(), 1);
        check.due("mark()", x.mark(), 0);
        check.refused(x, "program(1)", x.program(1), 2);
        check.refused(x, "program(-1)", x.program(-1), 2);
        check.due("fault() not by 2", x.fault(), 0);
        check.refused(x, "a faulty one", Check.tell(x, "program p,p"), 4);
        check.due("its lines stay", x.size(0), 2);
        check.due("its RUN stays", x.now(1), 1);
        check.due("its MARKS stay", x.size(4), 1);
        check.due("the FAULT", x.fault(), 3);
        check.refused(x, "program(2) of nothing", x.program(2), 2);
        check.due("the FAULT of the one before", x.fault(), 3);
        check.due("where() behind 2", x.where(), -1);
        check.refused(x, "program(0)", x.program(0), 4);
        check.due("fault() of nothing", x.fault(), 1);
        check.due("where() of nothing", x.where(), 0);
        x.start(5, 5, 5, 5);
        check.granted(x, "another one", Check.tell(x, "program p,q,r;line p then end"), 3);
        check.due("no MARKS", x.size(4), 0);
        check.due("no wants", x.size(3), 0);
        check.due("counters are 0", x.counter(0) + x.counter(1) + x.counter(2) + x.counter(3), 0);
        check.due("STEPS are 0", x.now(1), 0);
        check.due("no FAULT", x.fault(), 0);
    }

    private void fault(String text, int number, int place) {
        BurntWays x = new BurntWays();
        check.refused(x, text, Check.tell(x, text), 4);
        check.due(text + ": fault()", x.fault(), number);
        check.due(text + ": where()", x.where(), place);
    }

    private void fine(String text, int lines) {
        BurntWays x = new BurntWays();
        check.granted(x, text, Check.tell(x, text), lines);
        check.due(text + ": fault()", x.fault(), 0);
        check.due(text + ": where()", x.where(), -1);
    }

    private void faults() {
        fine("program abcdefgh", 1);
        fault("program abcdefghi", 1, 8);
        fault("program x;line xx", 2, 15);
        fault("programs x", 1, 0);
        fault("Program x", 1, 0);
        fault("program x.", 1, 9);
        fault("program x;", 1, 10);
        fault("program x;;", 1, 10);
        fault("program x,", 1, 10);
        fault("program x y", 1, 10);
        fault("program", 1, 7);
        fault("program 1", 1, 8);
        fault("program x;line x", 1, 16);
        fault("program x;line x end", 1, 17);
        fault("program x;line x then", 1, 21);
        fault("program x;line x then end then", 1, 26);
        fault("program x;line x do then end", 1, 20);
        fault("program x;line x do up a,then end", 1, 25);
        fault("program x;line x do up x then end", 1, 23);
        fault("program x;line x do up then end", 1, 23);
        fault("program x;line x do up 1 then end", 1, 23);
        fault("program x;line x then if x to x by 1 else x by 1", 1, 25);
        fault("program x;line x then if to x by 1 else x by 1", 1, 25);
        fault("program x;line x do up a up b then end", 1, 25);
        fault("program x;line x do set a then end", 1, 26);
        fault("program x;line x do set a 1000", 1, 26);
        fault("program x;line x do give a then end", 1, 25);
        fault("program x;line x then to to by 1", 1, 25);
        fault("program x;line x then to x 1", 1, 27);
        fault("program x;line x then to x by 1234", 1, 30);
        fault("program x;line x then to x by 1 else x by 1", 1, 32);
        fault("program x;line x then if a x by 1", 1, 27);
        fault("want 1,2,3 4 is 5", 1, 11);
        fault("want 1,2,3,4,5 is 5", 1, 12);
        fault("want 1,2,3,4 5", 1, 13);
        fine("want1,2,3,4is5;program x;line x then if d to x by1else x by9", 1);
        fine("  program   x ; line x do set a 009 then to x by 09  ", 1);
        for (String word : "program line want do up down set give then end to if by else is a b c d".split(" ")) {
            fault("program " + word, 1, 8);
        }
    }

    private void places() {
        fault("program x;line x then to y by 1", 2, 25);
        fault("program x;line x do give y then end", 2, 25);
        fault("program x;line x do up a,give y,up e", 2, 30);
        fine("program abz,zab,z;line z then to zab by 1", 3);
        fault("program abz,zab;line abz then to z by 1", 2, 33);
        fault("program x;line x then if a to x by 1 else y by 1", 2, 42);
        fault("program x,y,x", 3, 12);
        fault("program x;program y", 3, 10);
        fault("program x;line x then end;line x then end", 3, 31);
        fault("program x;line x then to x by 10", 4, 30);
        fault("program x;line x then if a to x by 0 else y by 1", 4, 35);
        fault("program x;line x then if a to x by 1 else x by 0", 4, 47);
        fault("want 0,0,0,10 is 5", 4, 11);
        fault("want 0,0,0,x is 5", 1, 11);
        fault("want 0,0,0,0 is x", 1, 16);
        fault("want 9,9,9,9 is 100;program x", 4, 16);
        fine("want 9,9,9,9 is 99;program x", 1);
        fine("program xa,xb,xc,xd,xe,xf,xg,xh,xi,xj", 10);
        fault("program xa,xb,xc,xd,xe,xf,xg,xh,xi,xj,xk", 5, 38);
        fault("program xa,xb,xc,xd,xe,xf,xg,xh,xi,xj,xa", 3, 38);
        fault("program xa,xb,xc,xd,xe,xf,xg,xh,xi,xj,up", 1, 38);
        fault("program x;line x do up a,up a,up a,up a,fly", 1, 40);
        fault("program x;line x do up a,up a,up a,up a,set", 5, 40);
        String want = "want 0,0,0,0 is 0;";
        String six = want + want + want + want + want + want;
        fine(six + "program x", 1);
        fault(six + "program x;want", 5, 118);
        fault("line x then end;program x", 6, 0);
        fault("want 0,0,0,0 is 0;line x then end;program x", 6, 18);
        fault("want 0,0,0,0 is 0  ", 6, 19);
        fault("program x;line y do fly", 2, 15);
        BurntWays x = new BurntWays();
        Check.tell(x, "program x,x");
        x.feed(0, 0, 0, 0, 0);
        x.size(0);
        x.fault();
        check.due("where() stays behind calls that can't be refused", x.where(), 10);
        x.loop(1, 1);
        check.due("where() is gone behind one that can", x.where(), -1);
        check.due("fault() stays", x.fault(), 3);
    }

    private void start() {
        BurntWays x = Check.told(ADDER);
        check.due("start(99)", x.start(99, 99, 99, 99), true);
        check.due("start(99), trouble", x.trouble(), 0);
        check.due("counter(3)", x.counter(3), 99);
        x.steps(2);
        int[][] wrong = {{-1, 0, 0, 0}, {0, 100, 0, 0}, {0, 0, -1, 0}, {0, 0, 0, 100}};
        for (int[] w : wrong) {
            check.due("start() out of bounds", x.start(w[0], w[1], w[2], w[3]), false);
            check.due("start() out of bounds, trouble", x.trouble(), 2);
        }
        check.due("the RUN stays", x.now(1), 2);
        check.due("start(0)", x.start(0, 1, 2, 3), true);
        check.due("counters", x.counter(0) * 1000 + x.counter(1) * 100 + x.counter(2) * 10 + x.counter(3), 123);
        check.due("nothing is taken", x.now(3) + x.now(1), 0);
        check.due("LEFT", x.left(0), 3);
    }

    private void steps() {
        BurntWays x = Check.told(ADDER);
        x.start(1, 2, 0, 0);
        check.refused(x, "steps(0)", x.steps(0), 2);
        check.refused(x, "steps(100)", x.steps(100), 2);
        check.granted(x, "steps(5)", x.steps(5), 5);
        check.due("it goes on", x.now(2), 0);
        check.granted(x, "steps(99)", x.steps(99), 1);
        check.due("it has ended by end", x.now(2), 1);
        check.refused(x, "steps(1)", x.steps(1), 6);
        check.refused(x, "steps(0) of an ended one", x.steps(0), 2);
    }

    private void run() {
        BurntWays x = Check.told(ADDER);
        x.start(1, 2, 0, 0);
        check.granted(x, "run()", x.run(), 6);
        check.granted(x, "run() again", x.run(), 0);
        x.start(0, 4, 0, 0);
        check.granted(x, "run() to a burnt way", x.run(), 7);
        check.due("END 2", x.now(2), 2);
        check.due("it stays at the line", x.now(0), 0);
        check.due("ways taken", x.now(3), 6);
        check.due("counter a", x.counter(0), 3);
        x = Check.told("program p,q;line p do up c then if c to q by 1 else p by 1");
        check.granted(x, "run() to an untold line", x.run(), 1);
        check.due("END 3", x.now(2), 3);
        check.due("at it", x.now(0), 1);
        x = Check.told("program p,q;line q then end");
        check.granted(x, "run() at an untold line", x.run(), 0);
        check.due("END 3 at once", x.now(2), 3);
        x = Check.told(ring());
        x.start(10, 0, 0, 0);
        check.granted(x, "run() of a ring", x.run(), 181);
        check.due("END 2 of a ring", x.now(2), 2);
        check.due("all is burnt", x.burnt(), 0xfffff);
    }

    private void acts() {
        BurntWays x = Check.told("program p;line p do up a,down b,set c 9,set d 0 then end");
        x.start(99, 0, 3, 3);
        x.run();
        check.due("up stops at 99", x.counter(0), 99);
        check.due("down stops at 0", x.counter(1), 0);
        check.due("set to 9", x.counter(2), 9);
        check.due("set to 0", x.counter(3), 0);
        x = Check.told("program p,q,r;line p do set a 3,down a,up b then if a to q by 1 else r by 1;line q then end");
        x.run();
        check.due("the ACTS come before the if, in order", x.now(0), 1);
        check.due("a", x.counter(0), 2);
        check.due("b", x.counter(1), 1);
        check.refused(x, "counter(-1)", x.counter(-1), 1);
        check.refused(x, "counter(4)", x.counter(4), 1);
    }

    private void gives() {
        BurntWays x = Check.told("program p,q;line p then to q by 1;line q do give p then to p by 5");
        x.steps(2);
        check.due("given back", x.left(0), 1);
        check.due("run()", x.run(), 3);
        check.due("given once", x.left(0), 0);
        check.due("ways taken, also what was given", x.now(3), 4);
        check.due("END", x.now(2), 2);
        x.start(0, 0, 0, 0);
        check.due("run() anew gives again", x.run(), 5);
        // Two gives at once are two acts that have given.
        x = Check.told("program p,q;line p then to q by 1;line q do give p,give p then to p by 5");
        check.due("two gives", x.run(), 5);
        // Both ways of the line come back.
        x = Check.told("program p,q,r;line p do down a then if a to q by 1 else q by 1;line q do up b then to r by 9;"
                + "line r then to p by 9");
        x.start(2, 0, 0, 0);
        x.run();
        check.due("both are burnt", x.burnt(), 3);
        x = Check.told("program p,q,r;line p do give p then to q by 2;line q then to p by 9");
        check.due("a line gives its own ways", x.run(), 5);
        x = Check.told("program p,q;line p do give q then end");
        check.due("what isn't told has nothing to give", x.run(), 1);
    }

    private void now() {
        BurntWays x = Check.told(ADDER);
        x.start(0, 1, 0, 0);
        x.steps(1);
        check.granted(x, "now(0)", x.now(0), 1);
        check.granted(x, "now(1)", x.now(1), 1);
        check.granted(x, "now(2)", x.now(2), 0);
        check.granted(x, "now(3)", x.now(3), 1);
        check.refused(x, "now(-1)", x.now(-1), 1);
        check.refused(x, "now(4)", x.now(4), 1);
    }

    private void leftAndBurnt() {
        BurntWays x = Check.told(ADDER);
        check.granted(x, "burnt() ahead", x.burnt(), 0);
        check.granted(x, "left(1)", x.left(1), 1);
        check.granted(x, "left(6)", x.left(6), 2);
        int[] none = {-1, 3, 4, 5, 7, 8, 19, 20, 1000};
        for (int way : none) {
            check.refused(x, "left(" + way + ")", x.left(way), 1);
        }
        x.start(0, 3, 0, 0);
        x.run();
        check.granted(x, "burnt()", x.burnt(), 0b111);
        check.granted(x, "left(0)", x.left(0), 0);
    }

    private void path() {
        BurntWays x = Check.told(ring());
        check.granted(x, "path(0) ahead", x.path(0), 0);
        check.refused(x, "path(1) ahead", x.path(1), 1);
        x.start(10, 0, 0, 0);
        x.steps(99);
        check.granted(x, "path(99)", x.path(99), 9);
        x.run();
        check.granted(x, "path(42)", x.path(42), 2);
        check.granted(x, "path(99)", x.path(99), 9);
        check.refused(x, "path(100)", x.path(100), 1);
        check.refused(x, "path(-1)", x.path(-1), 1);
        x = Check.told(ADDER);
        x.run();
        check.granted(x, "path(2): the STEP that ends it", x.path(2), 2);
        check.refused(x, "path(3)", x.path(3), 1);
    }

    private void answer() {
        BurntWays x = Check.told(ADDER);
        x.start(0, 3, 0, 0);
        x.steps(3);
        check.granted(x, "answer(5, 3)", x.answer(5, 3, 0, 0), 8);
        check.granted(x, "answer(99, 3)", x.answer(99, 3, 99, 99), 99);
        check.refused(x, "answer(0, 4)", x.answer(0, 4, 0, 0), 5);
        check.refused(x, "answer(0, -1)", x.answer(0, -1, 0, 0), 2);
        check.refused(x, "answer(0, 0, 0, 100)", x.answer(0, 0, 0, 100), 2);
        check.due("the RUN stays", x.now(1), 3);
        check.due("its ways, too", x.left(0), 1);
        x = Check.told("program p");
        check.refused(x, "answer() of END 3", x.answer(0, 0, 0, 0), 5);
    }

    private void parted() {
        BurntWays x = Check.told(ADDER);
        check.granted(x, "parted(16, 32)", x.parted(16, 32), 3);
        check.granted(x, "parted(32, 16)", x.parted(32, 16), 3);
        check.granted(x, "parted(0, 207)", x.parted(0, 207), -2);
        check.granted(x, "parted(7, 7)", x.parted(7, 7), -2);
        check.refused(x, "parted(256, 0)", x.parted(256, 0), 1);
        check.refused(x, "parted(0, -1)", x.parted(0, -1), 1);
        // With a above 0 the run ends at q by a burnt way; the other goes on there.
        x = Check.told("program p,q;line p then if a to q by 1 else q by 9;line q then to p by 9");
        check.granted(x, "parted(): one ends", x.parted(0, 64), 3);
        x = Check.told("program p;line p do down d then if a to p by 1 else p by 1");
        check.granted(x, "parted(): the same line, ended alike", x.parted(0, 64), -2);
        x = Check.told("program p,q,r;line p then if a to q by 1 else r by 1;line q then end;line r then end");
        check.granted(x, "parted(): unlike lines", x.parted(64, 0), 1);
    }

    private void marks() {
        BurntWays x = Check.told(ADDER);
        x.start(1, 3, 0, 2);
        x.steps(3);
        check.granted(x, "mark()", x.mark(), 0);
        x.run();
        check.granted(x, "mark()", x.mark(), 1);
        check.due("fold", x.fold(0), 1);
        check.granted(x, "mark()", x.mark(), 2);
        check.granted(x, "mark()", x.mark(), 3);
        check.refused(x, "mark()", x.mark(), 3);
        check.due("size(4)", x.size(4), 4);
        check.due("back(0)", x.back(0), true);
        check.due("back(0), trouble", x.trouble(), 0);
        check.due("line", x.now(0), 1);
        check.due("STEPS", x.now(1), 3);
        check.due("it goes on", x.now(2), 0);
        check.due("taken", x.now(3), 3);
        check.due("a", x.counter(0), 2);
        check.due("d", x.counter(3), 2);
        check.due("left(0)", x.left(0), 1);
        check.due("left(6) of the line that was folded", x.left(6), 2);
        check.due("path(3)", x.path(3), 1);
        check.refused(x, "path(4)", x.path(4), 1);
        check.due("run()", x.run(), 5);
        check.due("back(2)", x.back(2), true);
        check.due("folded", x.size(1), 3);
        check.due("STEPS", x.now(1), 0);
        check.due("it goes on again", x.now(2), 0);
        check.due("back(1)", x.back(1), true);
        check.due("not folded", x.size(1), 4);
        check.due("ended", x.now(2), 1);
        check.due("all MARKS stay", x.size(4), 4);
        check.due("back(4)", x.back(4), false);
        check.due("back(4), trouble", x.trouble(), 1);
        check.due("back(-1)", x.back(-1), false);
        // What a line has given is kept, too.
        x = Check.told("program p,q;line p then to q by 1;line q do give p then to p by 5");
        x.steps(2);
        x.mark();
        x.start(0, 0, 0, 0);
        x.back(0);
        check.due("it has given", x.run(), 3);
        // The lines of all STEPS are kept.
        x = Check.told(ring());
        x.start(10, 0, 0, 0);
        x.run();
        x.mark();
        x.fold(0);
        x.back(0);
        check.due("path(99)", x.path(99), 9);
        check.due("path(1)", x.path(1), 1);
        x = Check.told(ADDER);
        x.start(0, 2, 0, 0);
        x.run();
        x.mark();
        x.start(0, 0, 0, 0);
        x.run();
        x.back(0);
        check.due("path(1) of another RUN", x.path(1), 1);
    }

    private void allInputs() {
        BurntWays x = Check.told(ADDER);
        check.granted(x, "must(0)", x.must(0), 0b10);
        check.granted(x, "must(3)", x.must(3), 0b10);
        check.granted(x, "unburnt(0)", x.unburnt(0), 0b1000101);
        check.granted(x, "unburnt(3)", x.unburnt(3), 0b1000000);
        check.granted(x, "whole(3)", x.whole(3), -2);
        check.granted(x, "longest(0)", x.longest(0), 2);
        check.granted(x, "longest(2)", x.longest(2), 6);
        check.granted(x, "longestAt(0)", x.longestAt(0), 0);
        check.granted(x, "longestAt(2)", x.longestAt(2), 18);
        int[] wrong = {-1, 4};
        for (int k : wrong) {
            check.refused(x, "must", x.must(k), 2);
            check.refused(x, "unburnt", x.unburnt(k), 2);
            check.refused(x, "whole", x.whole(k), 2);
            check.refused(x, "longest", x.longest(k), 2);
            check.refused(x, "longestAt", x.longestAt(k), 2);
            check.refused(x, "seen", x.seen(k), 2);
            check.refused(x, "first", x.first(k, 0), 2);
            check.refused(x, "most", x.most(k, 0), 2);
            check.refused(x, "spare", x.spare(k, 0), 2);
            check.refused(x, "fold", x.fold(k), 2);
            check.refused(x, "same", x.same(k), 2);
        }
        // The way to q is burnt whole if d is above 0, the other if it isn't, both with d being 2.
        x = Check.told("program p,q;line p then if d to q by 2 else q by 1;line q do down d then to p by 3");
        check.granted(x, "whole(1)", x.whole(1), -2);
        check.granted(x, "whole(2)", x.whole(2), 2);
        check.granted(x, "whole(3)", x.whole(3), 2);
        x = Check.told("program p");
        check.granted(x, "whole(0) without WAYS", x.whole(0), 0);
        check.granted(x, "longest(3) without STEPS", x.longest(3), 0);
        check.granted(x, "longestAt(3) without STEPS", x.longestAt(3), 0);
        check.granted(x, "must(3) without WAYS", x.must(3), 0);
    }

    private void anotherProgram() {
        BurntWays x = Check.told("program p,q;line p then if d to q by 2 else q by 1;line q do down d then to p by 3");
        check.due("whole(3)", x.whole(3), 2);
        check.due("whole(1)", x.whole(1), -2);
        check.due("most(3, 0)", x.most(3, 0), 2);
        check.due("most(0, 0)", x.most(0, 0), 0);
        check.due("trails()", x.trails(), 6);
        Check.tell(x, "program p,q;line p then if d to q by 1 else q by 1;line q then end");
        check.due("most(0, 0) of another program", x.most(0, 1), 1);
        check.due("trails() of another program", x.trails(), -2);
        check.due("ends(0, 1) of another program", x.ends(0, 1), 1);
    }

    private void mustAndGiven() {
        BurntWays x = Check.told(GIVEN);
        check.granted(x, "must(1) of what is given back", x.must(1), 1);
        check.granted(x, "unburnt(1) of what is given back", x.unburnt(1), 0);
        check.granted(x, "whole(1) of what is given back", x.whole(1), -2);
        x.run();
        check.granted(x, "burnt() of what is given back", x.burnt(), 0);
    }

    private void ends() {
        BurntWays x = Check.told("program p,q,r,s;line p do down b then if a to q by 1 else r by 1;"
                + "line q then if b to q by 1 else q by 1;line r do up c then if b to p by 9 else s by 9");
        check.granted(x, "ends(0, 1)", x.ends(0, 1), 0);
        check.granted(x, "ends(0, 2)", x.ends(0, 2), 0);
        check.granted(x, "ends(0, 3)", x.ends(0, 3), 1);
        check.granted(x, "ends(1, 2)", x.ends(1, 2), 8);
        check.granted(x, "ends(1, 3)", x.ends(1, 3), 8);
        check.refused(x, "ends(1, 0)", x.ends(1, 0), 1);
        check.refused(x, "ends(1, 4)", x.ends(1, 4), 1);
        check.refused(x, "ends(4, 4)", x.ends(4, 4), 1);
        check.refused(x, "ends(4, 1)", x.ends(4, 1), 2);
        check.refused(x, "ends(-1, 1)", x.ends(-1, 1), 2);
    }

    private void wanted() {
        BurntWays x = Check.told(ADDER);
        check.granted(x, "wanted()", x.wanted(), 3);
        x = Check.told("want 3,4,0,0 is 6;want 0,0,0,0 is 1;" + ADDER);
        check.granted(x, "wanted() of four", x.wanted(), 0b1100);
        check.due("size(3)", x.size(3), 4);
        x = Check.told("program p,q;line p then if b to p by 1 else q by 1;want 0,0,0,0 is 0;want 0,1,0,0 is 0");
        check.granted(x, "wanted(), but not by end", x.wanted(), 0);
        x = Check.told("program p");
        check.granted(x, "wanted() without wants", x.wanted(), 0);
    }

    private void comeAndKeys() {
        BurntWays x = Check.told("program p,q,r,s,t;line p then if a to q by 1 else r by 2;line q then to s by 1;"
                + "line r then if b to s by 9 else p by 1;line t then to p by 1");
        check.granted(x, "come()", x.come(), 0b01111);
        check.granted(x, "keys()", x.keys(), 0b11);
        x = Check.told("program p,q;line q then to p by 1");
        check.granted(x, "come() from a line that isn't told", x.come(), 1);
        check.granted(x, "keys() of it", x.keys(), 0);
        x = Check.told("program p,q;line p then if a to q by 1 else q by 1");
        check.granted(x, "keys(): either way does", x.keys(), 0);
        x = Check.told("program p,q;line p then if a to q by 9 else p by 1");
        check.granted(x, "keys(): all that it is laid", x.keys(), 1);
    }

    private void evenAndDegree() {
        BurntWays x = Check.told("program p,q,r;line p then if a to q by 2 else r by 1;line q then to p by 2");
        check.granted(x, "even(): one more at the first", x.even(), 1);
        check.granted(x, "degree(0)", x.degree(0), 1);
        check.granted(x, "degree(1)", x.degree(1), 0);
        check.granted(x, "degree(2) of a line not told", x.degree(2), -1);
        check.due("degree(3)", x.degree(3), -1000);
        check.due("degree(3), trouble", x.trouble(), 1);
        check.due("degree(-1)", x.degree(-1), -1000);
        x = Check.told("program p,q;line p then to q by 2;line q then to p by 1");
        check.granted(x, "even(): one more at the first, one less at the other", x.even(), 1);
        x = Check.told("program p,q;line p then to q by 3;line q then to p by 1");
        check.granted(x, "even(): two more", x.even(), 0);
        x = Check.told("program p,q;line p then to q by 1;line q then to p by 2");
        check.granted(x, "even(): one less at the first", x.even(), 0);
        x = Check.told("program p,q,r;line p then if a to q by 1 else r by 1");
        check.granted(x, "even(): one less at two", x.even(), 0);
        x = Check.told("program p,q,r,s;line p then to q by 1;line q then to r by 1;line r then to s by 1");
        check.granted(x, "even() of a row of lines", x.even(), 1);
        x = Check.told("program p,q,r,s;line p then to s by 1;line r then to q by 1;line s then to r by 1");
        check.granted(x, "even() of a row of lines in another order", x.even(), 1);
        x = Check.told("program p,q,r;line p then end;line q then to r by 1;line r then to q by 1");
        check.granted(x, "even() away from the first", x.even(), 0);
        x = Check.told("program p,q,r;line q then to r by 1;line r then to q by 1");
        check.granted(x, "even() without the first", x.even(), 0);
        x = Check.told("program p,q,r;line p then to p by 3;line q then to r by 1;line r then to q by 1");
        check.granted(x, "even(): they don't hang together", x.even(), 0);
        check.granted(x, "degree(0) of a way to itself", x.degree(0), 0);
        x = Check.told("program p,q,r;line p then to q by 1;line r then to q by 1");
        check.granted(x, "even(): one more at two", x.even(), 0);
        x = Check.told("program p,q;line q then end");
        check.granted(x, "even() without WAYS", x.even(), 1);
    }

    private void trail() {
        BurntWays x = Check.told(ring());
        check.granted(x, "even() of a ring", x.even(), 1);
        check.granted(x, "trails() of a ring", x.trails(), 180);
        for (int i = 0; i < 180; i++) {
            check.granted(x, "trail(" + i + ") of a ring", x.trail(i), i % 10 * 2 + i / 90);
        }
        check.refused(x, "trail(180)", x.trail(180), 1);
        check.refused(x, "trail(-1)", x.trail(-1), 1);
        x = Check.told("program p");
        check.granted(x, "trails() without WAYS", x.trails(), 0);
        check.refused(x, "trail(0) without WAYS", x.trail(0), 1);
        x = Check.told(ADDER);
        check.granted(x, "trails() if it isn't EVEN", x.trails(), -2);
        check.refused(x, "trail(0) if it isn't EVEN", x.trail(0), 6);
        check.refused(x, "trail(-1) if it isn't EVEN", x.trail(-1), 1);
    }

    private void trailThatTurns() {
        // The way to the end comes first by its number, but must be gone last.
        BurntWays x = Check.told("program p,q,r;line p then if a to r by 1 else q by 2;line q then to p by 2");
        int[] due = {1, 2, 1, 2, 0};
        check.granted(x, "trails()", x.trails(), 5);
        for (int i = 0; i < due.length; i++) {
            check.granted(x, "trail(" + i + ")", x.trail(i), due[i]);
        }
        // A fold changes it, going back does, too.
        x = Check.told("program p,q,r;line p then if a to q by 1 else r by 1;line q then to p by 1;line r then to p by 1");
        x.mark();
        check.due("trail(2)", x.trail(2), 1);
        check.due("trail(3)", x.trail(3), 4);
        check.due("fold(0)", x.fold(0), 1);
        check.due("trail(3) of it folded", x.trail(3), 2);
        x.back(0);
        check.due("trail(3) of it as it was", x.trail(3), 4);
    }

    private void seenAndFirst() {
        BurntWays x = Check.told(ADDER);
        check.granted(x, "seen(0)", x.seen(0), 0b101);
        check.granted(x, "seen(2)", x.seen(2), 0b111);
        check.granted(x, "first(2, 0)", x.first(2, 0), 0);
        check.granted(x, "first(2, 1)", x.first(2, 1), 9);
        check.granted(x, "first(0, 1)", x.first(0, 1), -2);
        check.granted(x, "first(3, 3)", x.first(3, 3), -2);
        check.refused(x, "first(3, 4)", x.first(3, 4), 1);
        check.refused(x, "first(9, -1)", x.first(9, -1), 1);
        x = Check.told("program p,q;line q then end");
        check.granted(x, "seen(1) at a line not told", x.seen(1), 1);
        x = Check.told("program p,q;line p then to q by 1");
        check.granted(x, "seen(0) of a line not told", x.seen(0), 3);
    }

    private void most() {
        BurntWays x = Check.told(ADDER);
        check.granted(x, "most(2, 0)", x.most(2, 0), 2);
        check.granted(x, "most(3, 6)", x.most(3, 6), 0);
        check.refused(x, "most(3, 3)", x.most(3, 3), 1);
        check.refused(x, "most(9, 20)", x.most(9, 20), 1);
        x = Check.told("program p,q;line p then to q by 1;line q do give p then to p by 5");
        check.granted(x, "most(0, 0) with what was given back", x.most(0, 0), 2);
    }

    private void spare() {
        BurntWays x = Check.told(ADDER);
        check.granted(x, "spare(3, 0)", x.spare(3, 0), 0);
        check.granted(x, "spare(1, 0)", x.spare(1, 0), 2);
        check.granted(x, "spare(1, 1)", x.spare(1, 1), 0);
        check.granted(x, "spare(1, 6)", x.spare(1, 6), 1);
        check.refused(x, "spare(1, 7)", x.spare(1, 7), 1);
        check.refused(x, "spare(9, -1)", x.spare(9, -1), 1);
        check.due("it is LAID as before", x.line(0, 4), 3);
        // b turns with each round: one round less ends otherwise, two less end alike.
        x = Check.told("program p,q,r,s;line p then if b to q by 9 else r by 9;line q do set b 0 then to s by 9;"
                + "line r do set b 1 then to s by 9;line s then to p by 4");
        check.granted(x, "spare(1, 6): the greatest", x.spare(1, 6), 2);
        // The end by a burnt way is another one than the end by end.
        x = Check.told("program p,q;line p do down d then if d to p by 2 else q by 1;line q then end");
        check.granted(x, "spare(2, 0)", x.spare(2, 0), 1);
        check.granted(x, "spare(3, 0)", x.spare(3, 0), 0);
    }

    private void loop() {
        BurntWays x = new BurntWays();
        int[][] due = {{1, 1, 1}, {1, 10, 1}, {1, 11, 2}, {1, 20, 2}, {1, 99, 10}, {2, 9, 2}, {2, 10, 4}, {9, 99, 99},
            {9, 9, 9}, {3, 18, 6}, {3, 19, 9}};
        for (int[] d : due) {
            check.granted(x, "loop(" + d[0] + ", " + d[1] + ")", x.loop(d[0], d[1]), d[2]);
        }
        int[][] wrong = {{0, 1}, {10, 1}, {1, 0}, {1, 100}, {-1, -1}};
        for (int[] w : wrong) {
            check.refused(x, "loop(" + w[0] + ", " + w[1] + ")", x.loop(w[0], w[1]), 2);
        }
    }

    private void alike() {
        BurntWays x = Check.told(ADDER);
        check.granted(x, "alike(1, 3)", x.alike(1, 3), 1);
        check.granted(x, "alike(0, 2)", x.alike(0, 2), 0);
        check.refused(x, "alike(3, 1)", x.alike(3, 1), 1);
        check.refused(x, "alike(2, 2)", x.alike(2, 2), 1);
        check.refused(x, "alike(-1, 2)", x.alike(-1, 2), 1);
        check.refused(x, "alike(1, 4)", x.alike(1, 4), 1);
        String[][] unlike = {
            {"do up a then end", "do up b then end"},
            {"do up a then end", "do down a then end"},
            {"do set a 1 then end", "do set a 2 then end"},
            {"do up a,up b then end", "do up b,up a then end"},
            {"do up a then end", "then end"},
            {"do give p then end", "do give q then end"},
            {"then end", "then to p by 1"},
            {"then to p by 1", "then to q by 1"},
            {"then if a to p by 1 else q by 1", "then if b to p by 1 else q by 1"},
            {"then if a to p by 1 else q by 1", "then if a to q by 1 else p by 1"},
            {"then if a to p by 1 else p by 1", "then to p by 1"},
        };
        for (String[] u : unlike) {
            x = Check.told("program p,q;line p " + u[0] + ";line q " + u[1]);
            check.granted(x, u[0] + " alike " + u[1], x.alike(0, 1), 0);
        }
        x = Check.told("program p,q,r;line p then end;line q then end");
        check.granted(x, "alike() of two ends", x.alike(0, 1), 1);
        check.granted(x, "alike() of a line not told", x.alike(0, 2), 0);
        x = Check.told("program p,q;line p do give q then if d to q by 1 else p by 2;"
                + "line q do give q then if d to q by 9 else p by 8");
        check.granted(x, "alike(), laid otherwise", x.alike(0, 1), 1);
        x = Check.told("program p,q,r;line p then if a to q by 1 else p by 1;line q then if a to q by 1 else r by 1;"
                + "line r then if a to q by 1 else r by 1");
        check.granted(x, "alike(0, 1): ELSE goes elsewhere", x.alike(0, 1), 0);
        check.granted(x, "alike(0, 2): ELSE goes elsewhere", x.alike(0, 2), 0);
        check.granted(x, "alike(1, 2)", x.alike(1, 2), 1);
    }

    private void unfair() {
        BurntWays x = Check.told(PAIR);
        check.granted(x, "unfair(0, 1, 1)", x.unfair(0, 1, 1), -2);
        check.granted(x, "unfair(0, 1, 2)", x.unfair(0, 1, 2), 18);
        check.granted(x, "unfair(0, 1, 3)", x.unfair(0, 1, 3), 32);
        check.due("nothing is merged", x.size(1), 3);
        check.refused(x, "unfair(0, 1, 4)", x.unfair(0, 1, 4), 2);
        check.refused(x, "unfair(0, 2, 4)", x.unfair(0, 2, 4), 2);
        check.refused(x, "unfair(0, 2, 3)", x.unfair(0, 2, 3), 5);
        check.refused(x, "unfair(1, 0, 4)", x.unfair(1, 0, 4), 1);
        check.refused(x, "unfair(0, 3, 4)", x.unfair(0, 3, 4), 1);
    }

    private void fold() {
        BurntWays x = Check.told(PAIR);
        x.start(1, 2, 3, 3);
        x.steps(2);
        check.refused(x, "fold(4)", x.fold(4), 2);
        check.due("a refused fold() leaves the RUN", x.now(1), 2);
        check.granted(x, "fold(3)", x.fold(3), 0);
        check.due("the RUN begins anew", x.now(1) + x.now(3) + x.now(0), 0);
        check.due("with all counters 0", x.counter(0) + x.counter(1) + x.counter(2) + x.counter(3), 0);
        check.granted(x, "fold(1)", x.fold(1), 1);
        check.due("told", x.size(1), 2);
        check.due("lines", x.size(0), 3);
        check.due("WAYS", x.size(2), 3);
        check.due("laid as often as both", x.line(0, 4), 2);
        check.due("ELSE goes to the lower one", x.line(2, 5), 0);
        check.due("all laid", x.size(6), 20);
        check.refused(x, "line(1, 0)", x.line(1, 0), 6);
        check.granted(x, "alike() of the one told no more", x.alike(0, 1), 0);
        check.granted(x, "degree() of it", x.degree(1), 0);
        check.granted(x, "must(1) now", x.must(1), 0b100001);
        x = Check.told("program p,q,r;line p then end;line q then if a to p by 1 else r by 2;"
                + "line r then if a to p by 3 else r by 4");
        check.granted(x, "fold(0) of two ifs", x.fold(0), 1);
        check.due("TO is laid 4 times", x.line(1, 4), 4);
        check.due("ELSE 6 times", x.line(1, 6), 6);
        check.due("ELSE goes to the lower line", x.line(1, 5), 1);
        check.due("nothing else is laid", x.size(6), 10);
        // 9 at most.
        x = Check.told("program p,q,r;line p then to r by 7;line q then to r by 8;line r then end");
        check.granted(x, "fold(3)", x.fold(3), 1);
        check.due("9 at most", x.line(0, 4), 9);
        // All lines that end are one, then those that lead to them, and so on.
        x = Check.told("program p,q,r,s,t;line p then if a to q by 1 else r by 1;line q then to s by 1;"
                + "line r then to t by 1;line s then end;line t then end");
        check.granted(x, "fold(3) of one fold behind the other", x.fold(3), 2);
        check.due("led(2)", Check.led(x, 2), 3);
        check.due("p goes to q", x.line(0, 5), 1);
        check.due("by 2", x.line(1, 4), 2);
    }

    private void foldGives() {
        BurntWays x = Check.told("program p,q,r;line p do up a then to r by 1;line q do up a then to r by 1;"
                + "line r do give q then to q by 9");
        check.due("steps before", x.run(), 5);
        check.due("a before", x.counter(0), 3);
        // p has 2 ways then, and gets them back: a would be 4.
        check.granted(x, "unfair(0, 1, 0)", x.unfair(0, 1, 0), 0);
        // Once q and r are one, p gives the same line as t does: they are one, too.
        x = Check.told("program p,q,r,s,t;line p do give r then to s by 1;line q then end;line r then end;"
                + "line s then to t by 9;line t do give q then to s by 1");
        check.granted(x, "alike(0, 4) ahead", x.alike(0, 4), 0);
        check.granted(x, "fold(0)", x.fold(0), 2);
        check.due("p goes to s twice", x.line(0, 4), 2);
        x = Check.told("program p,q,r;line p do set a 1 then to r by 1;line q do set a 1 then to r by 1;"
                + "line r do give q then to q by 9");
        check.granted(x, "fold(0)", x.fold(0), 1);
        check.due("the give is of the lower line", x.run(), 7);
        check.due("most(0, 0)", x.most(0, 0), 3);
    }

    private void foldInOrder() {
        // Three alike; each pair is fair: the first is merged with the second, then with the third.
        BurntWays x = Check.told("program p,q,r,s;line p then end;line q then to p by 3;line r then to p by 2;"
                + "line s then to p by 1");
        check.granted(x, "fold(0)", x.fold(0), 2);
        check.due("they are one", x.line(1, 4), 6);
        check.due("led(1)", Check.led(x, 1), 1);
        check.due("led(2)", Check.led(x, 2), -9);
    }

    private void same() {
        BurntWays x = Check.told(PAIR);
        check.granted(x, "same(3) ahead", x.same(3), 256);
        x.fold(1);
        check.granted(x, "same(0)", x.same(0), 1);
        check.granted(x, "same(1)", x.same(1), 16);
        check.granted(x, "same(2)", x.same(2), 54);
        check.granted(x, "same(3)", x.same(3), 128);
    }

    private void least() {
        BurntWays x = Check.told("program p;want 3,1,0,0 is 3");
        check.granted(x, "least(1) of a stays", x.least(1), 1);
        check.granted(x, "leastLine(1, 0)", x.leastLine(1, 0), 0);
        x = Check.told("program p;want 3,1,0,0 is 2;want 0,0,0,0 is 0");
        check.granted(x, "least(1) of a less 1", x.least(1), 1);
        check.granted(x, "leastLine(1, 0)", x.leastLine(1, 0), 6);
        x = Check.told("program p;want 3,1,0,0 is 5");
        check.granted(x, "least(1) of two more", x.least(1), 2);
        // up a, then to line 1 (7 and 2); up a, then end (7).
        check.granted(x, "leastLine(1, 0)", x.leastLine(1, 0), 9);
        check.granted(x, "leastLine(1, 1)", x.leastLine(1, 1), 7);
        x = Check.told("program p;want 0,0,0,0 is 99");
        check.granted(x, "least(1) if 3 don't do", x.least(1), -2);
        check.refused(x, "leastLine(1, 0) if 3 don't do", x.leastLine(1, 0), 6);
        check.refused(x, "least(0)", x.least(0), 2);
        check.refused(x, "least(10)", x.least(10), 2);
        x = Check.told("program p");
        check.refused(x, "least(0) without wants", x.least(0), 2);
        check.refused(x, "least(1) without wants", x.least(1), 6);
        // a and b and 1: up a, if b to line 1, else line 2 (13 and 9); down b, to line 0 (39 and 1); end.
        x = Check.told("program p;want 0,3,0,0 is 4;want 0,0,0,0 is 1;want 2,2,0,0 is 5");
        check.granted(x, "least(2): a way must be taken 3 times", x.least(2), -2);
        check.granted(x, "least(3)", x.least(3), 3);
        check.granted(x, "leastLine(3, 0)", x.leastLine(3, 0), 22);
        check.granted(x, "leastLine(3, 1)", x.leastLine(3, 1), 40);
        check.granted(x, "leastLine(3, 2)", x.leastLine(3, 2), 0);
        check.refused(x, "leastLine(2, 2)", x.leastLine(2, 2), 6);
        check.granted(x, "least(9)", x.least(9), 3);
        // b stays 0 at least: up a, if b to line 1, else line 2; down b, if b to line 2, else line 0 (39 and 10); end.
        x = Check.told("program p;want 2,2,0,0 is 3;want 0,1,0,0 is 2");
        check.granted(x, "least(1) by b that turns 0", x.least(1), 3);
        check.granted(x, "its line 0", x.leastLine(1, 0), 22);
        check.granted(x, "its line 1", x.leastLine(1, 1), 49);
        check.granted(x, "its line 2", x.leastLine(1, 2), 0);
        // Another program has other wants.
        x.least(3);
        Check.tell(x, "program p;want 0,0,0,0 is 1");
        check.granted(x, "least(3) of another program", x.least(3), 1);
        check.granted(x, "leastLine(3, 0) of another program", x.leastLine(3, 0), 3);
        Check.tell(x, "program p;want 0,0,0,0 is 0");
        check.granted(x, "least(3) of a third program", x.leastLine(3, 0), 0);
    }

    private void leastLine() {
        BurntWays x = Check.told("program p;want 3,1,0,0 is 5");
        check.refused(x, "leastLine(1, -1)", x.leastLine(1, -1), 1);
        check.refused(x, "leastLine(1, 3)", x.leastLine(1, 3), 1);
        check.refused(x, "leastLine(1, 2) of two lines", x.leastLine(1, 2), 1);
        check.refused(x, "leastLine(0, 3)", x.leastLine(0, 3), 1);
        check.refused(x, "leastLine(0, 0)", x.leastLine(0, 0), 2);
        check.refused(x, "leastLine(10, 0)", x.leastLine(10, 0), 2);
        x = Check.told("program p");
        check.refused(x, "leastLine(1, 0) without wants", x.leastLine(1, 0), 6);
    }

    private void line() {
        BurntWays x = Check.told("program p,q,r,s;line p do up a,set b 3,give q,down c then if d to q by 4 else r by 7;"
                + "line q then to s by 2;line r then end");
        int[][] due = {{4, 2, 3, 1, 4, 2, 7}, {0, 1, -2, 3, 2, -2, 0}, {0, 0, -2, -2, 0, -2, 0}};
        for (int i = 0; i < due.length; i++) {
            for (int what = 0; what <= 6; what++) {
                check.granted(x, "line(" + i + ", " + what + ")", x.line(i, what), due[i][what]);
            }
        }
        check.refused(x, "line(3, 0)", x.line(3, 0), 6);
        check.refused(x, "line(3, 7)", x.line(3, 7), 1);
        check.refused(x, "line(4, 0)", x.line(4, 0), 1);
        check.refused(x, "line(-1, 0)", x.line(-1, 0), 1);
        check.refused(x, "line(0, -1)", x.line(0, -1), 1);
    }

    private void led() {
        BurntWays x = Check.told("program p,q,r,s;line s then end;line q then end");
        x.steps(0);
        check.due("led(0)", Check.led(x, 0), 1);
        check.due("led(1)", Check.led(x, 1), 3);
        check.due("led(2)", Check.led(x, 2), -9);
        check.due("led(-1)", Check.led(x, -1), -9);
        check.due("led() leaves the trouble", x.trouble(), 2);
    }

    private void size() {
        BurntWays x = Check.told(ADDER);
        x.feed(0, 0, 0, 0, 0);
        x.mark();
        int[] due = {4, 4, 4, 2, 1, 20, 9};
        x.counter(9);
        for (int what = 0; what <= 6; what++) {
            check.due("size(" + what + ")", x.size(what), due[what]);
        }
        check.due("size(-1)", x.size(-1), -1);
        check.due("size(7)", x.size(7), -1);
        check.due("size() leaves the trouble", x.trouble(), 1);
    }

    private void trouble() {
        BurntWays x = Check.told(ADDER);
        check.due("0", x.trouble(), 0);
        x.back(0);
        check.due("1", x.trouble(), 1);
        x.fault();
        x.where();
        x.feed(0, 0, 0, 0, 0);
        x.size(9);
        check.due("1 stays behind calls that can't be refused", x.trouble(), 1);
        x.whole(3);
        check.due("-2 isn't refused", x.trouble(), 0);
        x.must(4);
        check.due("2", x.trouble(), 2);
        for (int i = 0; i < 5; i++) {
            x.mark();
        }
        check.due("3", x.trouble(), 3);
        x.program(20);
        check.due("4", x.trouble(), 4);
        x.unfair(0, 1, 0);
        check.due("5", x.trouble(), 5);
        x.trail(0);
        check.due("6", x.trouble(), 6);
        x.come();
        check.due("0 again", x.trouble(), 0);
    }
}
