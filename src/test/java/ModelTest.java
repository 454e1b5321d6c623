import java.util.Arrays;
import java.util.Random;

/** Random programs, faulty texts and rows of calls: the program must answer as the plain model does. */
public final class ModelTest {
    private static final String[] NAMES = {
        "top", "add", "out", "dup", "xa", "xb", "longname", "e", "f", "zz", "many", "more",
    };
    private static final String[] PIECES = {
        "program", "line", "want", "do", "up", "down", "set", "give", "then", "end", "to", "if", "by", "else", "is",
        "a", "b", "c", "d", "e", "top", "add", "nobody", "abcdefgh", "abcdefghi", "0", "1", "9", "10", "99", "100",
        "999", "1000", "007", ";", ",", " ", "  ", "A", ".", "\u00e9", "\u0000", "x1", "1x",
    };
    private static final int CALLS = 44;

    private final Random random;
    private final Check check;

    private ModelTest(long seed, Check check) {
        this.random = new Random(seed);
        this.check = check;
    }

    public static void main(String[] args) {
        int rows = args.length > 0 ? Integer.parseInt(args[0]) : 300;
        long seed = args.length > 1 ? Long.parseLong(args[1]) : 1;
        Check check = new Check("ModelTest");
        ModelTest test = new ModelTest(seed, check);
        for (int i = 0; i < 40 * rows && !check.isWrong(); i++) {
            test.faultyText(i);
        }
        for (int i = 0; i < rows && !check.isWrong(); i++) {
            test.rowOfCalls(i);
        }
        for (int i = 0; i < rows / 10 && !check.isWrong(); i++) {
            test.leastPrograms(i);
        }
        check.end();
    }

    private int below(int n) {
        return random.nextInt(n);
    }

    private boolean oneOf(int n) {
        return below(n) == 0;
    }

    // ---- texts

    private String act(int lines) {
        String x = "abcd".substring(0, 1 + below(4));
        x = x.substring(x.length() - 1);
        switch (below(5)) {
            case 0:
                return "up " + x;
            case 1:
            case 2:
                return "down " + x;
            case 3:
                return "set " + x + " " + below(10);
            default:
                return "give " + NAMES[below(lines)];
        }
    }

    private String way(int lines, int laid) {
        return NAMES[below(lines)] + " by " + (1 + below(laid));
    }

    private String goal(int lines, int laid) {
        switch (below(7)) {
            case 0:
                return "then end";
            case 1:
            case 2:
            case 3:
                return "then to " + way(lines, laid);
            default:
                return "then if " + "abcd".charAt(below(4)) + " to " + way(lines, laid) + " else " + way(lines, laid);
        }
    }

    private String lineText(int line, int lines, int laid) {
        StringBuilder s = new StringBuilder("line " + NAMES[line] + " ");
        int acts = oneOf(3) ? 0 : below(5);
        for (int i = 0; i < acts; i++) {
            s.append(i == 0 ? "do " : ",").append(act(lines)).append(oneOf(4) ? " " : "");
        }
        return s.append(acts > 0 ? " " : "").append(goal(lines, laid)).toString();
    }

    private String want() {
        return "want " + below(5) + "," + below(5) + "," + below(3) + "," + below(3) + " is " + below(oneOf(5) ? 100 : 8);
    }

    private String text() {
        String text = oneOf(3) ? walkedText() : oneOf(2) ? loopText() : foldingText();
        return text.length() <= 900 ? text : text();
    }

    private String names(int lines) {
        return String.join(",", Arrays.copyOf(NAMES, lines));
    }

    /** Ways are laid as often as a walk takes them, so that it is often EVEN. */
    private String walkedText() {
        int lines = 1 + below(8);
        int[] leads = new int[2 * lines];
        int[] laid = new int[2 * lines];
        for (int way = 0; way < leads.length; way++) {
            leads[way] = below(lines);
        }
        int at = oneOf(9) ? below(lines) : 0;
        for (int i = below(40); i > 0; i--) {
            int way = 2 * at + below(2);
            if (laid[way] < 9) {
                laid[way]++;
                at = leads[way];
            }
        }
        StringBuilder s = new StringBuilder("program " + names(lines));
        for (int line = 0; line < lines; line++) {
            int to = 2 * line;
            String first = NAMES[leads[to]] + " by " + laid[to];
            String second = NAMES[leads[to + 1]] + " by " + laid[to + 1];
            String acts = oneOf(2) ? "" : "do " + act(lines) + " ";
            if (laid[to] > 0 && laid[to + 1] > 0) {
                s.append(";line " + NAMES[line] + " " + acts + "then if " + "abcd".charAt(below(4)) + " to " + first
                        + " else " + second);
            } else if (laid[to] + laid[to + 1] > 0) {
                s.append(";line " + NAMES[line] + " " + acts + "then to " + (laid[to] > 0 ? first : second));
            } else if (oneOf(2)) {
                s.append(";line " + NAMES[line] + " " + acts + "then end");
            }
        }
        return s.toString();
    }

    /** Loops that count down, with gives, and an end to come to. */
    private String loopText() {
        int lines = 2 + below(5);
        StringBuilder s = new StringBuilder("program " + names(lines));
        for (int line = 0; line < lines - 1; line++) {
            char x = "abcd".charAt(below(4));
            s.append(";line " + NAMES[line] + " do down " + x);
            for (int i = below(4); i > 0; i--) {
                s.append("," + (oneOf(2) ? "give " + NAMES[below(lines)] : oneOf(2) ? "up a" : act(lines)));
            }
            s.append(" then if " + x + " to " + NAMES[below(line + 1)] + " by " + (1 + below(9)));
            s.append(" else " + NAMES[line + 1] + " by " + (1 + below(3)));
        }
        s.append(oneOf(5) ? "" : ";line " + NAMES[lines - 1] + " then end");
        for (int i = below(3); i > 0; i--) {
            s.append(';').append(want());
        }
        return s.toString();
    }

    /** Lines of a program are often copies of one another, so that there is something to fold. */
    private String foldingText() {
        int lines = 1 + below(oneOf(2) ? 4 : 10);
        int laid = oneOf(2) ? 2 : 9;
        StringBuilder s = new StringBuilder();
        if (oneOf(4)) {
            s.append(want()).append(';');
        }
        s.append("program ").append(names(lines));
        String last = null;
        for (int i = 0; i < lines; i++) {
            if (oneOf(9)) {
                continue;
            }
            String told = lineText(i, lines, laid);
            if (last != null && oneOf(2)) {
                told = "line " + NAMES[i] + last.substring(last.indexOf(' ', 5));
                told = oneOf(2) ? told : told.replaceAll("by [0-9]", "by " + (1 + below(9)));
            }
            last = told;
            s.append(oneOf(5) ? " ; " : ";").append(told);
        }
        for (int i = below(4); i > 0; i--) {
            s.append(';').append(want());
        }
        return s.toString();
    }

    private String broken(String text) {
        StringBuilder s = new StringBuilder(text);
        for (int i = 1 + below(2); i > 0; i--) {
            int at = below(s.length() + 1);
            int to = Math.min(s.length(), at + below(9));
            switch (below(9)) {
                case 6:
                    replaceOne(s, at, "by [0-9]", "by " + below(1200));
                    break;
                case 7:
                    replaceOne(s, at, "do ", "do up a,set b 3,down c," + (oneOf(2) ? "up d," : "set d " + below(20) + ","));
                    break;
                case 8:
                    replaceOne(s, oneOf(2) ? 0 : at, "(top|add|out|dup|xa)", NAMES[below(NAMES.length)]
                            + (oneOf(3) ? ",mm,nn,oo,pp,qq,rr,ss,tt,uu" : ""));
                    break;
                case 0:
                    s.delete(at, to);
                    break;
                case 1:
                    s.insert(at, PIECES[below(PIECES.length)]);
                    break;
                case 2:
                    s.replace(at, to, " " + PIECES[below(PIECES.length)] + " ");
                    break;
                case 3:
                    s.setLength(at);
                    break;
                case 4:
                    s.insert(at, s.substring(at, to));
                    break;
                default:
                    int semicolon = s.indexOf(";", at);
                    if (semicolon >= 0) {
                        s.insert(semicolon, ";" + want());
                    }
                    break;
            }
        }
        return s.toString();
    }

    private static void replaceOne(StringBuilder s, int from, String pattern, String by) {
        String tail = s.substring(from).replaceFirst(pattern, by);
        s.setLength(from);
        s.append(tail);
    }

    private String pieces() {
        StringBuilder s = new StringBuilder(oneOf(2) ? "program top,add;line top " : "");
        for (int i = below(30); i > 0; i--) {
            s.append(PIECES[below(PIECES.length)]).append(oneOf(3) ? "" : " ");
        }
        return s.toString();
    }

    private String anyText() {
        String text = oneOf(6) ? pieces() : oneOf(3) ? text() : broken(text());
        return text.length() > 900 ? text.substring(0, 900) : text;
    }

    private void feedBoth(BurntWays x, PlainModel m, String text) {
        for (int from = 0; from < text.length(); from += 20) {
            int[] five = new int[5];
            for (int i = 0; i < 20; i++) {
                int sign = from + i < text.length() ? text.charAt(from + i) : ' ';
                five[i / 4] = five[i / 4] << 8 | sign & 255;
            }
            check.due("feed", x.feed(five[0], five[1], five[2], five[3], five[4]), m.feed(five));
        }
    }

    private void tellBoth(BurntWays x, PlainModel m, String text, String row) {
        feedBoth(x, m, text);
        int n = text.length();
        String what = row + ": program(" + n + ") of \"" + text + "\"";
        check.due(what, x.program(n), m.program(n));
        sameTrouble(x, m, what);
    }

    private void sameTrouble(BurntWays x, PlainModel m, String what) {
        check.due(what + " trouble()", x.trouble(), m.trouble);
        check.due(what + " fault()", x.fault(), m.fault);
        check.due(what + " where()", x.where(), m.where());
    }

    private void faultyText(int i) {
        tellBoth(new BurntWays(), new PlainModel(), anyText(), "text " + i);
    }

    // ---- calls

    private int around(int low, int high) {
        return low - 1 + below(high - low + 3);
    }

    private int bound() {
        return oneOf(9) ? around(0, 3) : below(oneOf(4) ? 4 : 3);
    }

    private void rowOfCalls(int i) {
        BurntWays x = new BurntWays();
        PlainModel m = new PlainModel();
        StringBuilder row = new StringBuilder("row " + i);
        int told = 0;
        int calls = 0;
        // An object is used for 512 calls: a text takes 49 of them at most, any other row of calls 4.
        while (calls + 49 <= 512 && !check.isWrong()) {
            if (told == 0 && oneOf(2) || told > 0 && oneOf(40)) {
                String text = oneOf(4) ? anyText() : text();
                row.append(" | ").append(text);
                tellBoth(x, m, text, row.toString());
                told++;
                calls += (text.length() + 19) / 20 + 4;
            } else {
                compare(x, m, 4 + below(CALLS - 4), row);
                calls += 4;
            }
        }
    }

    private void compare(BurntWays x, PlainModel m, int call, StringBuilder row) {
        int before = row.length();
        long[] both = call < 15 ? runCall(x, m, call, row)
                : call < 22 ? inputCall(x, m, call, row)
                : call < 33 ? netCall(x, m, call, row)
                : otherCall(x, m, call, row);
        String what = check.isWrong() ? row.substring(before) : row.toString();
        check.due(what, both[0], both[1]);
        sameTrouble(x, m, what);
    }

    private static long[] two(long got, long want) {
        return new long[] {got, want};
    }

    private static long bit(boolean b) {
        return b ? 1 : 0;
    }

    private int count() {
        return oneOf(30) ? around(0, 99) : oneOf(3) ? below(100) : below(6);
    }

    private long[] runCall(BurntWays x, PlainModel m, int call, StringBuilder row) {
        int i;
        switch (call) {
            case 4: {
                int a = count();
                int b = count();
                int c = count();
                int d = count();
                row.append(" start " + a + " " + b + " " + c + " " + d);
                return two(bit(x.start(a, b, c, d)), bit(m.start(a, b, c, d)));
            }
            case 5:
                i = oneOf(5) ? around(1, 99) : 1 + below(9);
                row.append(" steps " + i);
                return two(x.steps(i), m.steps(i));
            case 6:
                if (oneOf(2)) {
                    row.append(" burnt");
                    return two(x.burnt(), m.burnt());
                }
                row.append(" run");
                return two(x.run(), m.run());
            case 7:
                i = around(0, 3);
                row.append(" now " + i);
                return two(x.now(i), m.now(i));
            case 8:
                i = around(0, 3);
                row.append(" counter " + i);
                return two(x.counter(i), m.counter(i));
            case 9:
                i = around(0, 20);
                row.append(" left " + i);
                return two(x.left(i), m.left(i));
            case 10:
                i = oneOf(2) ? around(0, 110) : below(9);
                row.append(" path " + i);
                return two(x.path(i), m.path(i));
            case 11: {
                int a = count();
                int b = count();
                int c = count();
                int d = count();
                row.append(" answer " + a + " " + b + " " + c + " " + d);
                return two(x.answer(a, b, c, d), m.answer(a, b, c, d));
            }
            case 12: {
                int one = around(0, 255);
                int other = around(0, 255);
                row.append(" parted " + one + " " + other);
                return two(x.parted(one, other), m.parted(one, other));
            }
            case 13:
                row.append(" mark");
                return two(x.mark(), m.mark());
            default:
                i = around(0, 3);
                row.append(" back " + i);
                return two(bit(x.back(i)), bit(m.back(i)));
        }
    }

    private long[] inputCall(BurntWays x, PlainModel m, int call, StringBuilder row) {
        int k = bound();
        row.append(" inputs " + call + " " + k);
        switch (call) {
            case 15:
                return two(x.must(k), m.must(k));
            case 16:
                return two(x.unburnt(k), m.unburnt(k));
            case 17:
                return two(x.whole(k), m.whole(k));
            case 18:
                return two(x.longest(k), m.longest(k));
            case 19:
                return two(x.longestAt(k), m.longestAt(k));
            case 20:
                int end = around(1, 3);
                row.append(" " + end);
                return two(x.ends(k, end), m.ends(k, end));
            default:
                return two(x.wanted(), m.wanted());
        }
    }

    private long[] netCall(BurntWays x, PlainModel m, int call, StringBuilder row) {
        int k = bound();
        int line = around(0, 10);
        int way = around(0, 20);
        row.append(" net " + call + " " + k + " " + line + " " + way);
        switch (call) {
            case 22:
                return two(x.come(), m.come());
            case 23:
                return two(x.even(), m.even());
            case 24:
                return two(x.degree(line), m.degree(line));
            case 25:
                return two(x.trails(), m.trails());
            case 26:
                int i = oneOf(2) ? line : around(0, 50);
                row.append(" " + i);
                return m.knowsTrail() ? two(x.trail(i), m.trail(i)) : two(x.trails(), m.trails());
            case 27:
                return two(x.keys(), m.keys());
            case 28:
                return two(x.seen(k), m.seen(k));
            case 29:
                return two(x.first(k, line), m.first(k, line));
            case 30:
                return two(x.most(k, way), m.most(k, way));
            case 31:
                return two(x.spare(k, way), m.spare(k, way));
            default:
                row.append(" loop");
                int rounds = around(1, 99);
                return two(x.loop(line, rounds), m.loop(line, rounds));
        }
    }

    private long[] otherCall(BurntWays x, PlainModel m, int call, StringBuilder row) {
        int k = bound();
        int line = around(0, 9);
        int other = oneOf(3) ? around(0, 9) : line + 1 + below(3);
        row.append(" other " + call + " " + k + " " + line + " " + other);
        switch (call) {
            case 33:
                return two(x.alike(line, other), m.alike(line, other));
            case 34:
                return two(x.unfair(line, other, k), m.unfair(line, other, k));
            case 35:
            case 36:
                return two(x.fold(k), m.fold(k));
            case 37:
                return two(x.same(k), m.same(k));
            case 38:
            case 39:
                int what = around(0, 6);
                row.append(" " + what);
                return two(x.line(line, what), m.line(line, what));
            case 40:
                return two(Check.led(x, line), m.led(line));
            case 41:
            case 42:
                int size = around(0, 6);
                row.append(" " + size);
                return two(x.size(size), m.size(size));
            default:
                int n = around(0, 2) - 1;
                row.append(" program " + n);
                return n < 0 ? two(x.program(n), m.program(n)) : two(x.wanted(), m.wanted());
        }
    }

    // ---- the least

    private void leastPrograms(int i) {
        StringBuilder text = new StringBuilder("program p");
        int rule = below(6);
        for (int n = 1 + below(4); n > 0; n--) {
            int a = below(7);
            int b = below(5);
            int due = rule == 0 ? a + b : rule == 1 ? Math.max(0, a - b) : rule == 2 ? a + 1 + below(2)
                    : rule == 3 ? b : rule == 4 ? 1 : a + 2 * b;
            text.append(";want " + a + "," + b + "," + below(3) + "," + below(3) + " is " + due);
        }
        BurntWays x = new BurntWays();
        PlainModel m = new PlainModel();
        tellBoth(x, m, text.toString(), "least " + i);
        int w = around(1, 9);
        String what = text + " least(" + w + ")";
        check.due(what, x.least(w), m.least(w));
        sameTrouble(x, m, what);
        for (int line = -1; line <= 3; line++) {
            check.due(what + " line " + line, x.leastLine(w, line), m.leastLine(w, line));
            sameTrouble(x, m, what);
        }
    }
}
