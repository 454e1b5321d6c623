import java.util.ArrayList;
import java.util.Arrays;
import java.util.HashMap;
import java.util.HashSet;
import java.util.List;
import java.util.Map;
import java.util.Set;
import java.util.TreeSet;
import java.util.regex.Matcher;
import java.util.regex.Pattern;

/**
 * The document written down a second time, by other means and without any care for speed or room:
 * what ModelTest holds the program against.
 */
final class PlainModel {
    static final class Act {
        String kind = "";
        int counter = -1;
        int value = 0;
        int line = -1;

        String shown() {
            return kind + " " + counter + " " + value + " " + line;
        }

        Act copy() {
            Act a = new Act();
            a.kind = kind;
            a.counter = counter;
            a.value = value;
            a.line = line;
            return a;
        }
    }

    static final class Line {
        List<Act> acts = new ArrayList<>();
        int goal = 0;
        int asked = -2;
        int[] leads = {-2, -2};
        int[] laid = {0, 0};

        Line copy() {
            Line l = new Line();
            for (Act a : acts) {
                l.acts.add(a.copy());
            }
            l.goal = goal;
            l.asked = asked;
            l.leads = leads.clone();
            l.laid = laid.clone();
            return l;
        }

        String shown() {
            StringBuilder s = new StringBuilder();
            for (Act a : acts) {
                s.append(a.shown()).append("; ");
            }
            return s + " " + goal + " " + asked + " " + leads[0] + " " + leads[1];
        }
    }

    static final class Program {
        int lines = 0;
        Map<Integer, Line> told = new HashMap<>();

        Program copy() {
            Program p = new Program();
            p.lines = lines;
            for (Map.Entry<Integer, Line> e : told.entrySet()) {
                p.told.put(e.getKey(), e.getValue().copy());
            }
            return p;
        }

        TreeSet<Integer> ways() {
            TreeSet<Integer> all = new TreeSet<>();
            for (Map.Entry<Integer, Line> e : told.entrySet()) {
                for (int side = 0; side < e.getValue().goal; side++) {
                    all.add(2 * e.getKey() + side);
                }
            }
            return all;
        }

        int laid(int way) {
            return told.get(way / 2).laid[way % 2];
        }

        int leads(int way) {
            return told.get(way / 2).leads[way % 2];
        }
    }

    static final class Run {
        final Program program;
        int[] counters;
        int at = 0;
        int ended = 0;
        List<Integer> lines = new ArrayList<>();
        List<Integer> ways = new ArrayList<>();
        /** Ways taken and not given back. */
        List<Integer> burning = new ArrayList<>();
        Set<String> given = new HashSet<>();

        Run(Program program, int... counters) {
            this.program = program;
            this.counters = counters.clone();
            lines.add(0);
            if (!program.told.containsKey(0)) {
                ended = 3;
            }
        }

        Run copy() {
            Run r = new Run(program.copy(), counters);
            r.at = at;
            r.ended = ended;
            r.lines = new ArrayList<>(lines);
            r.ways = new ArrayList<>(ways);
            r.burning = new ArrayList<>(burning);
            r.given = new HashSet<>(given);
            return r;
        }

        int steps() {
            return lines.size() - 1;
        }

        int left(int way) {
            int left = program.laid(way);
            for (int w : burning) {
                left -= w == way ? 1 : 0;
            }
            return left;
        }

        void step() {
            Line line = program.told.get(at);
            for (int i = 0; i < line.acts.size(); i++) {
                Act act = line.acts.get(i);
                int x = act.counter;
                if (act.kind.equals("up")) {
                    counters[x] = Math.min(99, counters[x] + 1);
                } else if (act.kind.equals("down")) {
                    counters[x] = Math.max(0, counters[x] - 1);
                } else if (act.kind.equals("set")) {
                    counters[x] = act.value;
                } else if (given.add(at + "." + i)) {
                    burning.removeIf(w -> w / 2 == act.line);
                }
            }
            if (line.goal == 0) {
                ended = 1;
            } else {
                int way = 2 * at + (line.goal == 2 && counters[line.asked] == 0 ? 1 : 0);
                if (left(way) == 0) {
                    ended = 2;
                } else {
                    burning.add(way);
                    ways.add(way);
                    at = program.leads(way);
                    ended = program.told.containsKey(at) ? 0 : 3;
                }
            }
            lines.add(at);
        }

        Run whole() {
            while (ended == 0) {
                step();
            }
            return this;
        }

        String ending() {
            return ended + " " + Arrays.toString(counters);
        }
    }

    private static final class Fault {
        final int number;
        final int place;

        Fault(int number, int place) {
            this.number = number;
            this.place = place;
        }
    }

    private static final String[] KINDS = {
        "program", "p", "line", "l", "want", "w", "do", "d", "up", "u", "down", "u", "set", "s", "give", "g",
        "then", "t", "end", "e", "to", "o", "if", "i", "by", "b", "else", "x", "is", "S",
        "a", "c", "b", "c", "c", "c", "d", "c",
    };
    private static final String WAY = "NbW";
    private static final String ACT = "(uc|scW|gN)";
    private static final String PART = "(pN(,N)*|lN(d" + ACT + "(," + ACT + ")*)?t(e|o" + WAY + "|ico" + WAY + "x" + WAY
            + ")|wW,W,W,WSW)";
    private static final Pattern FORM = Pattern.compile(PART + "(;" + PART + ")*");
    private static final Pattern TOKEN = Pattern.compile("[a-z]+|[0-9]+|[;,]");

    final StringBuilder tape = new StringBuilder();
    int trouble = 0;
    int fault = 0;
    int place = 0;
    Program asTold = null;
    Program now = null;
    List<int[]> wants = new ArrayList<>();
    Run run = null;
    List<Run> marks = new ArrayList<>();

    // ---- the text

    private final List<String> words = new ArrayList<>();
    private final List<Integer> places = new ArrayList<>();
    private final StringBuilder kinds = new StringBuilder();

    /** The place of the first byte that begins no token; -1 if there is none. */
    private int lex(String text) {
        words.clear();
        places.clear();
        kinds.setLength(0);
        Matcher m = TOKEN.matcher(text);
        int at = 0;
        while (true) {
            while (at < text.length() && text.charAt(at) == ' ') {
                at++;
            }
            if (at == text.length()) {
                return -1;
            }
            m.region(at, text.length());
            if (!m.lookingAt()) {
                return at;
            }
            String word = m.group();
            char kind = kindOf(word);
            if (kind == '?') {
                return at;
            }
            words.add(word);
            places.add(at);
            kinds.append(kind);
            at = m.end();
        }
    }

    private static char kindOf(String word) {
        char first = word.charAt(0);
        if (first == ';' || first == ',') {
            return first;
        }
        if (first <= '9') {
            return word.length() <= 3 ? 'W' : '?';
        }
        for (int i = KINDS.length - 2; i >= 0; i -= 2) {
            if (KINDS[i].equals(word)) {
                // "b" and "c" are counters: their rows stand behind those of the other words.
                return KINDS[i + 1].charAt(0);
            }
        }
        return word.length() <= 8 ? 'N' : '?';
    }

    private Fault formFault(String text) {
        int strange = lex(text);
        for (int i = 1; i <= words.size(); i++) {
            Matcher m = FORM.matcher(kinds.substring(0, i));
            if (!m.matches() && !m.hitEnd()) {
                return new Fault(1, places.get(i - 1));
            }
        }
        if (strange >= 0) {
            return new Fault(1, strange);
        }
        return FORM.matcher(kinds).matches() ? null : new Fault(1, text.length());
    }

    private Fault firstFault(String text) {
        Fault form = formFault(text);
        int before = form == null ? text.length() + 1 : form.place;
        Set<String> names = new HashSet<>();
        Set<String> toldLines = new HashSet<>();
        boolean program = false;
        int wantCount = 0;
        char part = ' ';
        int inPart = 0;
        int acts = 0;
        for (int i = 0; i < words.size() && places.get(i) < before; i++) {
            char kind = kinds.charAt(i);
            char last = i > 0 ? kinds.charAt(i - 1) : ' ';
            String word = words.get(i);
            TreeSet<Integer> numbers = new TreeSet<>();
            if (kind == ';') {
                part = ' ';
                continue;
            }
            if (part == ' ') {
                part = kind;
                inPart = 0;
                acts = 0;
                if (kind == 'p') {
                    if (program) {
                        numbers.add(3);
                    }
                    program = true;
                } else if (kind == 'l' && !program) {
                    numbers.add(6);
                } else if (kind == 'w' && ++wantCount > 6) {
                    numbers.add(5);
                }
            } else if (kind == 'N' && part == 'p') {
                if (names.size() == 10) {
                    numbers.add(5);
                }
                if (!names.add(word)) {
                    numbers.add(3);
                }
            } else if (kind == 'N') {
                if (!names.contains(word)) {
                    numbers.add(2);
                }
                if (inPart == 1 && !toldLines.add(word)) {
                    numbers.add(3);
                }
            } else if (kind == 'u' || kind == 's' || kind == 'g') {
                if (++acts > 4) {
                    numbers.add(5);
                }
            } else if (kind == 'W') {
                int value = Integer.parseInt(word);
                int high = last == 'S' ? 99 : 9;
                int low = last == 'b' ? 1 : 0;
                if (value < low || value > high) {
                    numbers.add(4);
                }
            }
            if (!numbers.isEmpty()) {
                return new Fault(numbers.first(), places.get(i));
            }
            inPart++;
        }
        if (form != null) {
            return form;
        }
        return program ? null : new Fault(6, text.length());
    }

    private void build(String text) {
        List<String> names = new ArrayList<>();
        Program p = new Program();
        wants = new ArrayList<>();
        for (String part : text.split(";")) {
            lex(part);
            if (words.get(0).equals("program")) {
                for (String w : words.subList(1, words.size())) {
                    if (!w.equals(",")) {
                        names.add(w);
                    }
                }
            } else if (words.get(0).equals("want")) {
                wants.add(new int[] {value(1), value(3), value(5), value(7), value(9)});
            }
        }
        p.lines = names.size();
        for (String part : text.split(";")) {
            lex(part);
            if (words.get(0).equals("line")) {
                p.told.put(names.indexOf(words.get(1)), buildLine(names));
            }
        }
        asTold = p;
        now = p.copy();
    }

    private int value(int i) {
        return Integer.parseInt(words.get(i));
    }

    private Line buildLine(List<String> names) {
        Line line = new Line();
        int then = words.indexOf("then");
        for (int i = 3; i < then; i++) {
            String word = words.get(i);
            if ("up down set give".contains(word) && word.length() > 1) {
                Act act = new Act();
                act.kind = word;
                if (word.equals("give")) {
                    act.line = names.indexOf(words.get(i + 1));
                } else {
                    act.counter = "abcd".indexOf(words.get(i + 1));
                }
                act.value = word.equals("set") ? value(i + 2) : 0;
                line.acts.add(act);
            }
        }
        for (int i = then + 1; i < words.size(); i++) {
            if (words.get(i).equals("if")) {
                line.asked = "abcd".indexOf(words.get(i + 1));
            } else if (words.get(i).equals("by")) {
                line.leads[line.goal] = names.indexOf(words.get(i - 1));
                line.laid[line.goal] = value(i + 1);
                line.goal++;
            }
        }
        return line;
    }

    // ---- refusals

    private int no(int number) {
        trouble = number;
        return -1;
    }

    private int yes(int answer) {
        trouble = 0;
        return answer;
    }

    private boolean noLine(int line) {
        return now == null || line < 0 || line >= now.lines;
    }

    private boolean noWay(int way) {
        return now == null || !now.ways().contains(way);
    }

    /** The number by which a call on all inputs to k is refused, 0 else. */
    private int kTrouble(int k) {
        return now == null ? 1 : k < 0 || k > 3 ? 2 : 0;
    }

    private static List<int[]> inputs(int k) {
        List<int[]> all = new ArrayList<>();
        for (int a = 0; a <= k; a++) {
            for (int b = 0; b <= k; b++) {
                for (int c = 0; c <= k; c++) {
                    for (int d = 0; d <= k; d++) {
                        all.add(new int[] {a, b, c, d});
                    }
                }
            }
        }
        return all;
    }

    private static List<Run> runs(Program p, int k) {
        List<Run> all = new ArrayList<>();
        for (int[] input : inputs(k)) {
            all.add(new Run(p, input).whole());
        }
        return all;
    }

    private static int bits(Iterable<Integer> numbers) {
        int bits = 0;
        for (int n : numbers) {
            bits |= 1 << n;
        }
        return bits;
    }

    // ---- the face

    int feed(int... numbers) {
        if (tape.length() + 20 > 900) {
            return -1;
        }
        for (int number : numbers) {
            for (int i = 3; i >= 0; i--) {
                tape.append((char) (number >>> 8 * i & 255));
            }
        }
        return tape.length();
    }

    int program(int n) {
        if (n < 0 || n > tape.length()) {
            return no(2);
        }
        String text = tape.substring(0, n);
        tape.setLength(0);
        Fault f = firstFault(text);
        fault = f == null ? 0 : f.number;
        if (f != null) {
            place = f.place;
            return no(4);
        }
        build(text);
        run = new Run(now, 0, 0, 0, 0);
        marks.clear();
        return yes(now.lines);
    }

    int where() {
        return trouble == 4 ? place : -1;
    }

    boolean start(int... counters) {
        if (now == null) {
            return no(1) == 0;
        }
        for (int c : counters) {
            if (c < 0 || c > 99) {
                return no(2) == 0;
            }
        }
        run = new Run(now, counters);
        return yes(0) == 0;
    }

    int steps(int n) {
        if (now == null) {
            return no(1);
        }
        if (n < 1 || n > 99) {
            return no(2);
        }
        if (run.ended != 0) {
            return no(6);
        }
        int made = 0;
        while (made < n && run.ended == 0) {
            run.step();
            made++;
        }
        return yes(made);
    }

    int run() {
        if (now == null) {
            return no(1);
        }
        int before = run.steps();
        return yes(run.whole().steps() - before);
    }

    int now(int what) {
        if (now == null || what < 0 || what > 3) {
            return no(1);
        }
        return yes(new int[] {run.at, run.steps(), run.ended, run.ways.size()}[what]);
    }

    int counter(int x) {
        return now == null || x < 0 || x > 3 ? no(1) : yes(run.counters[x]);
    }

    int left(int way) {
        return noWay(way) ? no(1) : yes(run.left(way));
    }

    private static int burntBits(Run r) {
        TreeSet<Integer> burnt = r.program.ways();
        burnt.removeIf(w -> r.left(w) > 0);
        return bits(burnt);
    }

    int burnt() {
        return now == null ? no(1) : yes(burntBits(run));
    }

    int path(int i) {
        return now == null || i < 0 || i > 99 || i >= run.lines.size() ? no(1) : yes(run.lines.get(i));
    }

    int answer(int... counters) {
        if (now == null) {
            return no(1);
        }
        for (int c : counters) {
            if (c < 0 || c > 99) {
                return no(2);
            }
        }
        Run r = new Run(now, counters).whole();
        return r.ended == 1 ? yes(r.counters[0]) : no(5);
    }

    int parted(int input, int other) {
        if (now == null || input < 0 || input > 255 || other < 0 || other > 255) {
            return no(1);
        }
        Run one = new Run(now, inputs(3).get(input)).whole();
        Run two = new Run(now, inputs(3).get(other)).whole();
        for (int i = 1; i <= Math.max(one.steps(), two.steps()); i++) {
            if (i > one.steps() || i > two.steps()) {
                throw new IllegalStateException("one has ended before the other, and it wasn't told");
            }
            int endOne = i == one.steps() ? one.ended : 0;
            int endTwo = i == two.steps() ? two.ended : 0;
            if (!one.lines.get(i).equals(two.lines.get(i)) || endOne != endTwo) {
                return yes(i);
            }
        }
        return yes(-2);
    }

    int mark() {
        if (now == null) {
            return no(1);
        }
        if (marks.size() == 4) {
            return no(3);
        }
        marks.add(run.copy());
        return yes(marks.size() - 1);
    }

    boolean back(int mark) {
        if (mark < 0 || mark >= marks.size()) {
            return no(1) == 0;
        }
        run = marks.get(mark).copy();
        now = run.program;
        return yes(0) == 0;
    }

    int must(int k) {
        if (kTrouble(k) != 0) {
            return no(kTrouble(k));
        }
        TreeSet<Integer> all = now.ways();
        for (Run r : runs(now, k)) {
            all.retainAll(r.ways);
        }
        return yes(bits(all));
    }

    int unburnt(int k) {
        if (kTrouble(k) != 0) {
            return no(kTrouble(k));
        }
        TreeSet<Integer> all = now.ways();
        for (Run r : runs(now, k)) {
            all.removeAll(r.ways);
        }
        return yes(bits(all));
    }

    int whole(int k) {
        if (kTrouble(k) != 0) {
            return no(kTrouble(k));
        }
        List<Run> all = runs(now, k);
        for (int i = 0; i < all.size(); i++) {
            if (burntBits(all.get(i)) == bits(now.ways())) {
                return yes(i);
            }
        }
        return yes(-2);
    }

    int longestAt(int k) {
        if (kTrouble(k) != 0) {
            return no(kTrouble(k));
        }
        List<Run> all = runs(now, k);
        int best = 0;
        for (int i = 1; i < all.size(); i++) {
            best = all.get(i).steps() > all.get(best).steps() ? i : best;
        }
        return yes(best);
    }

    int longest(int k) {
        int at = longestAt(k);
        return at < 0 ? at : runs(now, k).get(at).steps();
    }

    int ends(int k, int end) {
        if (now == null || end < 1 || end > 3) {
            return no(1);
        }
        if (kTrouble(k) != 0) {
            return no(kTrouble(k));
        }
        List<Run> all = runs(now, k);
        all.removeIf(r -> r.ended != end);
        return yes(all.size());
    }

    private static boolean answers(Program p, int[] want) {
        Run r = new Run(p, want[0], want[1], want[2], want[3]).whole();
        return r.ended == 1 && r.counters[0] == want[4];
    }

    int wanted() {
        if (now == null) {
            return no(1);
        }
        int bits = 0;
        for (int i = 0; i < wants.size(); i++) {
            bits |= answers(now, wants.get(i)) ? 1 << i : 0;
        }
        return yes(bits);
    }

    private static void reach(Program p, int line, int without, Set<Integer> reached) {
        if (reached.add(line)) {
            for (int way : p.ways()) {
                if (way / 2 == line && way != without) {
                    reach(p, p.leads(way), without, reached);
                }
            }
        }
    }

    private static Set<Integer> reached(Program p, int without) {
        Set<Integer> reached = new TreeSet<>();
        reach(p, 0, without, reached);
        return reached;
    }

    int come() {
        return now == null ? no(1) : yes(bits(reached(now, -1)));
    }

    private static int degreeOf(Program p, int line) {
        int degree = 0;
        for (int way : p.ways()) {
            degree += way / 2 == line ? p.laid(way) : 0;
            degree -= p.leads(way) == line ? p.laid(way) : 0;
        }
        return degree;
    }

    int degree(int line) {
        if (noLine(line)) {
            no(1);
            return -1000;
        }
        return yes(degreeOf(now, line));
    }

    private static boolean isEven(Program p) {
        // Groups of lines that hang together, by pulling the higher group's number down to the lower's.
        int[] group = new int[p.lines];
        Set<Integer> touched = new TreeSet<>();
        for (int i = 0; i < p.lines; i++) {
            group[i] = i;
        }
        for (int way : p.ways()) {
            int one = group[way / 2];
            int two = group[p.leads(way)];
            touched.add(way / 2);
            touched.add(p.leads(way));
            for (int i = 0; i < p.lines; i++) {
                group[i] = group[i] == Math.max(one, two) ? Math.min(one, two) : group[i];
            }
        }
        for (int line : touched) {
            if (group[line] != group[0]) {
                return false;
            }
        }
        int odd = 0;
        int others = 0;
        for (int i = 1; i < p.lines; i++) {
            others += degreeOf(p, i) == -1 ? 1 : 0;
            odd += degreeOf(p, i) != 0 && degreeOf(p, i) != -1 ? 1 : 0;
        }
        int first = degreeOf(p, 0);
        return odd == 0 && (first == 0 && others == 0 || first == 1 && others == 1);
    }

    int even() {
        return now == null ? no(1) : yes(isEven(now) ? 1 : 0);
    }

    /** Looks for the first row by trying all of them in order; the tries are counted down. */
    private static boolean seekTrail(Program p, int line, int[] left, List<Integer> row, int[] tries) {
        if (tries[0]-- <= 0) {
            return false;
        }
        boolean none = true;
        for (int way : p.ways()) {
            none &= left[way] == 0;
        }
        if (none) {
            return true;
        }
        for (int way = 2 * line; way <= 2 * line + 1; way++) {
            if (left[way] > 0) {
                left[way]--;
                row.add(way);
                if (seekTrail(p, p.leads(way), left, row, tries)) {
                    return true;
                }
                row.remove(row.size() - 1);
                left[way]++;
            }
        }
        return false;
    }

    /** The first row, null if there is none; behind too many tries an empty row in unknown[0]. */
    private static List<Integer> trailOf(Program p, boolean[] unknown) {
        int[] left = new int[20];
        for (int way : p.ways()) {
            left[way] = p.laid(way);
        }
        int[] tries = {20000};
        List<Integer> row = new ArrayList<>();
        boolean found = seekTrail(p, 0, left, row, tries);
        unknown[0] = !found && tries[0] <= 0;
        return found ? row : null;
    }

    /** Whether trails() and trail() can be answered here with few tries; then it's known that EVEN is true for it. */
    boolean knowsTrail() {
        if (now == null) {
            return true;
        }
        boolean[] unknown = {false};
        List<Integer> row = trailOf(now, unknown);
        if (!unknown[0] && (row != null) != isEven(now)) {
            throw new IllegalStateException("EVEN and TRAIL are at odds in the model");
        }
        return !unknown[0] || !isEven(now);
    }

    int trails() {
        if (now == null) {
            return no(1);
        }
        int sum = 0;
        for (int way : now.ways()) {
            sum += now.laid(way);
        }
        return yes(isEven(now) ? sum : -2);
    }

    int trail(int i) {
        if (now == null || i < 0) {
            return no(1);
        }
        if (!isEven(now)) {
            return no(6);
        }
        List<Integer> row = trailOf(now, new boolean[1]);
        return i < row.size() ? yes(row.get(i)) : no(1);
    }

    int keys() {
        if (now == null) {
            return no(1);
        }
        TreeSet<Integer> keys = now.ways();
        keys.removeIf(w -> reached(now, w).equals(reached(now, -1)));
        return yes(bits(keys));
    }

    int seen(int k) {
        if (kTrouble(k) != 0) {
            return no(kTrouble(k));
        }
        int bits = 0;
        for (Run r : runs(now, k)) {
            bits |= bits(r.lines);
        }
        return yes(bits);
    }

    int first(int k, int line) {
        if (noLine(line)) {
            return no(1);
        }
        if (kTrouble(k) != 0) {
            return no(kTrouble(k));
        }
        List<Run> all = runs(now, k);
        for (int i = 0; i < all.size(); i++) {
            if (all.get(i).lines.contains(line)) {
                return yes(i);
            }
        }
        return yes(-2);
    }

    int most(int k, int way) {
        if (noWay(way)) {
            return no(1);
        }
        if (kTrouble(k) != 0) {
            return no(kTrouble(k));
        }
        int most = 0;
        for (Run r : runs(now, k)) {
            List<Integer> such = new ArrayList<>(r.ways);
            such.removeIf(w -> w != way);
            most = Math.max(most, such.size());
        }
        return yes(most);
    }

    private static int firstUnlike(Program one, Program two, int k) {
        List<Run> a = runs(one, k);
        List<Run> b = runs(two, k);
        for (int i = 0; i < a.size(); i++) {
            if (!a.get(i).ending().equals(b.get(i).ending())) {
                return i;
            }
        }
        return -2;
    }

    int spare(int k, int way) {
        if (noWay(way)) {
            return no(1);
        }
        if (kTrouble(k) != 0) {
            return no(kTrouble(k));
        }
        int best = 0;
        for (int less = 1; less < now.laid(way); less++) {
            Program p = now.copy();
            p.told.get(way / 2).laid[way % 2] -= less;
            best = firstUnlike(now, p, k) == -2 ? less : best;
        }
        return yes(best);
    }

    int loop(int lines, int rounds) {
        if (lines < 1 || lines > 9 || rounds < 1 || rounds > 99) {
            return no(2);
        }
        int copies = 0;
        for (int gone = 0; gone < rounds; gone += lines == 1 ? 10 : 9) {
            copies++;
        }
        return yes(copies * lines);
    }

    private boolean noPair(int line, int other) {
        return noLine(line) || noLine(other) || line >= other;
    }

    private static boolean areAlike(Program p, int line, int other) {
        return p.told.containsKey(line) && p.told.containsKey(other)
                && p.told.get(line).shown().equals(p.told.get(other).shown());
    }

    private static Program merged(Program before, int line, int other) {
        Program p = before.copy();
        Line gone = p.told.remove(other);
        for (int side = 0; side < 2; side++) {
            p.told.get(line).laid[side] = Math.min(9, p.told.get(line).laid[side] + gone.laid[side]);
        }
        for (Line l : p.told.values()) {
            for (int side = 0; side < 2; side++) {
                l.leads[side] = l.leads[side] == other ? line : l.leads[side];
            }
            for (Act a : l.acts) {
                a.line = a.line == other ? line : a.line;
            }
        }
        return p;
    }

    int alike(int line, int other) {
        return noPair(line, other) ? no(1) : yes(areAlike(now, line, other) ? 1 : 0);
    }

    int unfair(int line, int other, int k) {
        if (noPair(line, other)) {
            return no(1);
        }
        if (kTrouble(k) != 0) {
            return no(kTrouble(k));
        }
        return areAlike(now, line, other) ? yes(firstUnlike(now, merged(now, line, other), k)) : no(5);
    }

    private static Program foldOnce(Program p, int k) {
        for (int line = 0; line < p.lines; line++) {
            for (int other = line + 1; other < p.lines; other++) {
                if (areAlike(p, line, other) && firstUnlike(p, merged(p, line, other), k) == -2) {
                    return merged(p, line, other);
                }
            }
        }
        return null;
    }

    int fold(int k) {
        if (kTrouble(k) != 0) {
            return no(kTrouble(k));
        }
        int before = now.told.size();
        for (Program p = now; p != null; p = foldOnce(p, k)) {
            now = p;
        }
        run = new Run(now, 0, 0, 0, 0);
        return yes(before - now.told.size());
    }

    int same(int k) {
        if (kTrouble(k) != 0) {
            return no(kTrouble(k));
        }
        List<Run> a = runs(now, k);
        List<Run> b = runs(asTold, k);
        int same = 0;
        for (int i = 0; i < a.size(); i++) {
            same += a.get(i).ending().equals(b.get(i).ending()) ? 1 : 0;
        }
        return yes(same);
    }

    private static Line leastLine(int number, int n, int w) {
        Line line = new Line();
        int goals = 1 + n + n * n;
        String[] acts = {"", "up", "down", "down"};
        int act = number / goals;
        if (act > 0) {
            Act a = new Act();
            a.kind = acts[act];
            a.counter = act == 3 ? 1 : 0;
            line.acts.add(a);
        }
        for (int goal = 0; goal < goals; goal++) {
            if (goal == number % goals && goal > 0) {
                line.goal = goal <= n ? 1 : 2;
                line.asked = goal <= n ? -2 : 1;
                line.leads[0] = goal <= n ? goal - 1 : (goal - 1 - n) / n;
                line.leads[1] = goal <= n ? -2 : (goal - 1 - n) % n;
                line.laid[0] = w;
                line.laid[1] = goal <= n ? 0 : w;
            }
        }
        return line;
    }

    /** The numbers of the lines of the first program of n lines that answers all wants; null if there is none. */
    private static int[] leastOf(List<int[]> wants, int n, int w) {
        int each = 4 * (1 + n + n * n);
        int all = n == 1 ? each : n == 2 ? each * each : each * each * each;
        for (int i = 0; i < all; i++) {
            int[] numbers = new int[n];
            int rest = i;
            Program p = new Program();
            p.lines = n;
            for (int line = n - 1; line >= 0; line--) {
                numbers[line] = rest % each;
                rest /= each;
                p.told.put(line, leastLine(numbers[line], n, w));
            }
            boolean fits = true;
            for (int j = 0; fits && j < wants.size(); j++) {
                fits = answers(p, wants.get(j));
            }
            if (fits) {
                return numbers;
            }
        }
        return null;
    }

    private int[] leastNumbers(int w) {
        int[] numbers = null;
        for (int n = 1; numbers == null && n <= 3; n++) {
            numbers = leastOf(wants, n, w);
        }
        return numbers;
    }

    int least(int w) {
        if (now == null) {
            return no(1);
        }
        if (w < 1 || w > 9) {
            return no(2);
        }
        if (wants.isEmpty()) {
            return no(6);
        }
        int[] numbers = leastNumbers(w);
        return yes(numbers == null ? -2 : numbers.length);
    }

    int leastLine(int w, int line) {
        if (now == null || line < 0 || line > 2) {
            return no(1);
        }
        if (w < 1 || w > 9) {
            return no(2);
        }
        if (wants.isEmpty()) {
            return no(6);
        }
        int[] numbers = leastNumbers(w);
        if (numbers == null) {
            return no(6);
        }
        return line < numbers.length ? yes(numbers[line]) : no(1);
    }

    int line(int i, int what) {
        if (noLine(i) || what < 0 || what > 6) {
            return no(1);
        }
        Line l = now.told.get(i);
        if (l == null) {
            return no(6);
        }
        return yes(new int[] {
            l.acts.size(), l.goal, l.asked, l.leads[0], l.laid[0], l.leads[1], l.laid[1]
        }[what]);
    }

    /** -9 where it throws. */
    int led(int i) {
        List<Integer> told = now == null ? new ArrayList<>() : new ArrayList<>(new TreeSet<>(now.told.keySet()));
        return i >= 0 && i < told.size() ? told.get(i) : -9;
    }

    int size(int what) {
        if (what == 5) {
            return tape.length();
        }
        if (what < 0 || what > 6) {
            return -1;
        }
        if (now == null) {
            return 0;
        }
        int laid = 0;
        for (int way : now.ways()) {
            laid += now.laid(way);
        }
        return new int[] {now.lines, now.told.size(), now.ways().size(), wants.size(), marks.size(), 0, laid}[what];
    }
}
