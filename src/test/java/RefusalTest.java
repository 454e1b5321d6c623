import java.util.List;
import java.util.function.Supplier;
import java.util.function.ToIntFunction;

/** Each refused call, by each number it may be refused by: it leaves everything else as it was. */
public final class RefusalTest {
    /** One that is folded, with a line that isn't told and wants. */
    private static final String FOLDED = "program p,q,r,s,u;line p do up c then if b to q by 2 else r by 1;"
            + "line q do down b,up a then to p by 3;line r then end;line s then end;want 1,2,0,0 is 3;want 0,0,0,0 is 2";
    private static final int[] BOUNDS = {-1, 4};

    private final Check check = new Check("RefusalTest");

    public static void main(String[] args) {
        RefusalTest test = new RefusalTest();
        test.withoutProgram();
        test.withoutProgramBehindAFault();
        test.midRun();
        test.withAllMarks();
        test.endedRun();
        test.withoutWants();
        test.isEven();
        test.faultyTexts();
        test.feedOfAFullTape();
        test.calls();
        test.check.end();
    }

    // ---- states

    private static BurntWays fed() {
        BurntWays x = new BurntWays();
        Check.feed(x, "program one,two;line one then end");
        return x;
    }

    private static BurntWays fedBehindAFault() {
        BurntWays x = new BurntWays();
        Check.tell(x, "program p,q,p");
        Check.feed(x, "program one,two;line one then end");
        return x;
    }

    /** Two MARKS, one ahead of a FOLD, and bytes on THE TAPE. */
    private static BurntWays inMidRun() {
        BurntWays x = Check.told(FOLDED);
        x.start(3, 1, 4, 1);
        x.steps(2);
        x.mark();
        x.fold(1);
        x.start(5, 2, 0, 7);
        x.steps(1);
        x.mark();
        x.steps(2);
        Check.feed(x, "program one,two,three;want 1,1,1,1 is 1");
        return x;
    }

    private static BurntWays withFourMarks() {
        BurntWays x = inMidRun();
        x.mark();
        x.steps(1);
        x.mark();
        return x;
    }

    private static BurntWays ended() {
        BurntWays x = inMidRun();
        x.run();
        return x;
    }

    private static BurntWays wantless() {
        BurntWays x = Check.told("program p,q;line p then to q by 2");
        x.mark();
        x.run();
        return x;
    }

    private static BurntWays evenOne() {
        BurntWays x = Check.told("program p,q;line p then to q by 2;line q then to p by 1;want 0,0,0,0 is 4");
        x.start(9, 8, 7, 6);
        x.steps(2);
        x.mark();
        return x;
    }

    // ---- how it is looked at

    /** The call answers so, with this TROUBLE, and all else is as if it had never been. */
    private void leaves(Supplier<BurntWays> state, String call, ToIntFunction<BurntWays> refused, int answer, int number) {
        BurntWays x = state.get();
        check.due(call, refused.applyAsInt(x), answer);
        check.due(call + ", trouble()", x.trouble(), number);
        check.due(call + ", where()", x.where(), -1);
        List<String> got = Picture.of(x);
        List<String> due = Picture.of(state.get());
        check.due(call + ", how many rows", got.size(), due.size());
        for (int i = 0; i < Math.min(got.size(), due.size()); i++) {
            boolean isAsDue = got.get(i).equals(due.get(i));
            check.due(call + " left " + (isAsDue ? "" : got.get(i) + ", due is " + due.get(i)), isAsDue, true);
        }
    }

    private void refused(Supplier<BurntWays> state, String call, ToIntFunction<BurntWays> refused, int number) {
        leaves(state, call, refused, -1, number);
    }

    private static int number(boolean answer) {
        return answer ? 1 : 0;
    }

    /** All calls of one k. */
    private void boundsRefused(Supplier<BurntWays> state, int k, int number) {
        refused(state, "must", x -> x.must(k), number);
        refused(state, "unburnt", x -> x.unburnt(k), number);
        refused(state, "whole", x -> x.whole(k), number);
        refused(state, "longest", x -> x.longest(k), number);
        refused(state, "longestAt", x -> x.longestAt(k), number);
        refused(state, "ends", x -> x.ends(k, 2), number);
        refused(state, "seen", x -> x.seen(k), number);
        refused(state, "first", x -> x.first(k, 0), number);
        refused(state, "most", x -> x.most(k, 0), number);
        refused(state, "spare", x -> x.spare(k, 0), number);
        refused(state, "unfair", x -> x.unfair(0, 1, k), number);
        refused(state, "fold", x -> x.fold(k), number);
        refused(state, "same", x -> x.same(k), number);
    }

    // ---- refused by 1

    private void withoutProgram() {
        noProgram(BurntWays::new);
        noProgram(RefusalTest::fed);
    }

    private void withoutProgramBehindAFault() {
        noProgram(RefusalTest::fedBehindAFault);
    }

    private void noProgram(Supplier<BurntWays> state) {
        leaves(state, "start", x -> number(x.start(1, 2, 3, 4)), 0, 1);
        leaves(state, "start", x -> number(x.start(100, 0, 0, 0)), 0, 1);
        refused(state, "steps", x -> x.steps(1), 1);
        refused(state, "run", x -> x.run(), 1);
        refused(state, "now", x -> x.now(0), 1);
        refused(state, "counter", x -> x.counter(0), 1);
        refused(state, "left", x -> x.left(0), 1);
        refused(state, "burnt", x -> x.burnt(), 1);
        refused(state, "path", x -> x.path(0), 1);
        refused(state, "answer", x -> x.answer(1, 2, 3, 4), 1);
        refused(state, "parted", x -> x.parted(0, 1), 1);
        refused(state, "mark", x -> x.mark(), 1);
        leaves(state, "back", x -> number(x.back(0)), 0, 1);
        boundsRefused(state, 0, 1);
        boundsRefused(state, 4, 1);
        refused(state, "wanted", x -> x.wanted(), 1);
        refused(state, "come", x -> x.come(), 1);
        refused(state, "even", x -> x.even(), 1);
        leaves(state, "degree", x -> x.degree(0), -1000, 1);
        refused(state, "trails", x -> x.trails(), 1);
        refused(state, "trail", x -> x.trail(0), 1);
        refused(state, "keys", x -> x.keys(), 1);
        refused(state, "alike", x -> x.alike(0, 1), 1);
        refused(state, "least", x -> x.least(1), 1);
        refused(state, "leastLine", x -> x.leastLine(1, 0), 1);
        refused(state, "line", x -> x.line(0, 0), 1);
        refused(state, "loop", x -> x.loop(0, 1), 2);
        refused(state, "program", x -> x.program(41), 2);
    }

    // ---- refused with a PROGRAM

    private void midRun() {
        Supplier<BurntWays> state = RefusalTest::inMidRun;
        refused(state, "program(-1)", x -> x.program(-1), 2);
        refused(state, "program(41)", x -> x.program(41), 2);
        countersRefused(state, -1);
        countersRefused(state, 100);
        refused(state, "steps(0)", x -> x.steps(0), 2);
        refused(state, "steps(100)", x -> x.steps(100), 2);
        for (int k : BOUNDS) {
            boundsRefused(state, k, 2);
        }
        leaves(state, "back(2)", x -> number(x.back(2)), 0, 1);
        leaves(state, "back(-1)", x -> number(x.back(-1)), 0, 1);
        noneSuch(state);
        refused(state, "answer, not by end", x -> x.answer(0, 3, 0, 0), 5);
        refused(state, "trail, not EVEN", x -> x.trail(0), 6);
        refused(state, "loop(0, 1)", x -> x.loop(0, 1), 2);
        refused(state, "loop(10, 1)", x -> x.loop(10, 1), 2);
        refused(state, "loop(1, 0)", x -> x.loop(1, 0), 2);
        refused(state, "loop(1, 100)", x -> x.loop(1, 100), 2);
        refused(state, "unfair, not ALIKE", x -> x.unfair(0, 1, 0), 5);
        refused(state, "unfair, folded", x -> x.unfair(2, 3, 0), 5);
        refused(state, "least(0)", x -> x.least(0), 2);
        refused(state, "least(10)", x -> x.least(10), 2);
        refused(state, "leastLine(0, 0)", x -> x.leastLine(0, 0), 2);
        refused(state, "leastLine(10, 0)", x -> x.leastLine(10, 0), 2);
        refused(state, "line(3, 0), folded", x -> x.line(3, 0), 6);
        refused(state, "line(4, 0), not told", x -> x.line(4, 0), 6);
    }

    private void countersRefused(Supplier<BurntWays> state, int wrong) {
        leaves(state, "start, a", x -> number(x.start(wrong, 0, 0, 0)), 0, 2);
        leaves(state, "start, b", x -> number(x.start(0, wrong, 0, 0)), 0, 2);
        leaves(state, "start, c", x -> number(x.start(0, 0, wrong, 0)), 0, 2);
        leaves(state, "start, d", x -> number(x.start(0, 0, 0, wrong)), 0, 2);
        refused(state, "answer, a", x -> x.answer(wrong, 0, 0, 0), 2);
        refused(state, "answer, b", x -> x.answer(0, wrong, 0, 0), 2);
        refused(state, "answer, c", x -> x.answer(0, 0, wrong, 0), 2);
        refused(state, "answer, d", x -> x.answer(0, 0, 0, wrong), 2);
    }

    private void noneSuch(Supplier<BurntWays> state) {
        int[] what = {-1, 4, 5, 7};
        for (int i : what) {
            refused(state, "now(" + i + ")", x -> x.now(i), 1);
            refused(state, "counter(" + i + ")", x -> x.counter(i), 1);
        }
        int[] ways = {-1, 3, 4, 5, 6, 8, 9, 10, 20};
        for (int way : ways) {
            refused(state, "left(" + way + ")", x -> x.left(way), 1);
            refused(state, "most(0, " + way + ")", x -> x.most(0, way), 1);
            refused(state, "spare(0, " + way + ")", x -> x.spare(0, way), 1);
        }
        refused(state, "path(-1)", x -> x.path(-1), 1);
        refused(state, "path(4)", x -> x.path(4), 1);
        refused(state, "path(100)", x -> x.path(100), 1);
        refused(state, "parted(-1, 0)", x -> x.parted(-1, 0), 1);
        refused(state, "parted(0, 256)", x -> x.parted(0, 256), 1);
        refused(state, "ends(0, 0)", x -> x.ends(0, 0), 1);
        refused(state, "ends(0, 4)", x -> x.ends(0, 4), 1);
        int[] lines = {-1, 5};
        for (int line : lines) {
            leaves(state, "degree(" + line + ")", x -> x.degree(line), -1000, 1);
            refused(state, "first(0, " + line + ")", x -> x.first(0, line), 1);
            refused(state, "alike(0, " + line + ")", x -> x.alike(0, line), 1);
            refused(state, "unfair(0, " + line + ", 0)", x -> x.unfair(0, line, 0), 1);
            refused(state, "line(" + line + ", 0)", x -> x.line(line, 0), 1);
            refused(state, "leastLine(1, " + line + ")", x -> x.leastLine(1, line), 1);
        }
        refused(state, "alike(1, 1)", x -> x.alike(1, 1), 1);
        refused(state, "unfair(2, 1, 0)", x -> x.unfair(2, 1, 0), 1);
        refused(state, "line(0, -1)", x -> x.line(0, -1), 1);
        refused(state, "line(0, 7)", x -> x.line(0, 7), 1);
        refused(state, "trail(-1)", x -> x.trail(-1), 1);
    }

    private void withAllMarks() {
        Supplier<BurntWays> state = RefusalTest::withFourMarks;
        refused(state, "a fifth mark", x -> x.mark(), 3);
        leaves(state, "back(4)", x -> number(x.back(4)), 0, 1);
        leaves(state, "back(-1)", x -> number(x.back(-1)), 0, 1);
        refused(state, "fold(4)", x -> x.fold(4), 2);
        refused(state, "program(41)", x -> x.program(41), 2);
    }

    private void endedRun() {
        Supplier<BurntWays> state = RefusalTest::ended;
        refused(state, "steps(1)", x -> x.steps(1), 6);
        refused(state, "steps(99)", x -> x.steps(99), 6);
        refused(state, "steps(0)", x -> x.steps(0), 2);
        refused(state, "path(7)", x -> x.path(7), 1);
        countersRefused(state, 100);
    }

    private void withoutWants() {
        Supplier<BurntWays> state = RefusalTest::wantless;
        refused(state, "least(1)", x -> x.least(1), 6);
        refused(state, "leastLine(1, 0)", x -> x.leastLine(1, 0), 6);
        refused(state, "least(0)", x -> x.least(0), 2);
        refused(state, "answer, END 3", x -> x.answer(0, 0, 0, 0), 5);
        refused(state, "line(1, 0)", x -> x.line(1, 0), 6);
    }

    private void isEven() {
        Supplier<BurntWays> state = RefusalTest::evenOne;
        refused(state, "trail(3)", x -> x.trail(3), 1);
        refused(state, "trail(-1)", x -> x.trail(-1), 1);
        refused(state, "leastLine(1, 0): there is none", x -> x.leastLine(1, 0), 6);
        refused(state, "answer, END 2", x -> x.answer(0, 0, 0, 0), 5);
        refused(state, "unfair, not ALIKE", x -> x.unfair(0, 1, 3), 5);
    }

    // ---- refused by 4, and what isn't refused by a number

    /** By 4 the PROGRAM stays with its RUN and its MARKS; THE TAPE and the FAULT are all that change. */
    private void faultyTexts() {
        String[] texts = {"program one,one", "line one then end", "program one;line one do up e", "want 1,2,3,4 is 5",
            "program one,two;line two do set a 9,give one then to three", "program one;want 0,0,0,0 is 100", "",
            "program a", "want 0,0,0,0 is 0;".repeat(7)};
        for (String text : texts) {
            BurntWays x = inMidRun();
            x.program(0);
            check.refused(x, text, Check.tell(x, text), 4);
            check.due(text + ": THE TAPE is empty", x.size(5), 0);
            List<String> got = Picture.of(x);
            BurntWays y = inMidRun();
            y.program(0);
            List<String> due = Picture.of(y);
            check.due(text + ": how many rows", got.size(), due.size());
            for (int i = 1; i < Math.min(got.size(), due.size()); i++) {
                boolean isAsDue = got.get(i).equals(due.get(i));
                check.due(text + " left " + (isAsDue ? "" : got.get(i) + ", due is " + due.get(i)), isAsDue, true);
            }
        }
    }

    private void feedOfAFullTape() {
        Supplier<BurntWays> full = () -> {
            BurntWays x = inMidRun();
            for (int i = 0; i < 43; i++) {
                x.feed(0x20202020, 0x20202020, 0x20202020, 0x20202020, 0x20202020);
            }
            x.come();
            return x;
        };
        leaves(full, "feed", x -> x.feed(1, 2, 3, 4, 5), -1, 0);
    }

    /** Calls that only tell leave all as it is, too, whatever they tell. */
    private void calls() {
        Supplier<BurntWays> state = RefusalTest::inMidRun;
        leaves(state, "answer", x -> x.answer(1, 1, 1, 1), 2, 0);
        leaves(state, "parted", x -> x.parted(255, 0), 1, 0);
        leaves(state, "spare", x -> x.spare(3, 0), 0, 0);
        leaves(state, "same", x -> x.same(3), 256, 0);
        leaves(state, "alike", x -> x.alike(0, 1), 0, 0);
        leaves(state, "least", x -> x.least(1), 2, 0);
        leaves(state, "wanted", x -> x.wanted(), 1, 0);
        leaves(state, "loop", x -> x.loop(9, 99), 99, 0);
        leaves(state, "size(9)", x -> x.size(9), -1, 0);
        leaves(state, "led(9)", x -> Check.led(x, 9), -9, 0);
        leaves(RefusalTest::ended, "run() of an ended one", x -> x.run(), 0, 0);
    }
}
