import java.util.Arrays;
import java.util.NoSuchElementException;

/**
 * Programs that burn behind themselves. The numbered promises of ../shared/DOC.md say what each call does;
 * this class keeps the face and its refusals, the classes inside it do the work.
 */
public final class BurntWays {
    public static final int NONE = -1;

    /** An answer that is not refused, but tells that there is nothing. */
    private static final int NOTHING = -2;
    private static final int NO_DEGREE = -1000;

    private static final int NO_TROUBLE = 0;
    private static final int NONE_SUCH = 1;
    private static final int BAD_NUMBER = 2;
    private static final int NO_ROOM = 3;
    private static final int FAULTY = 4;
    private static final int NOT_SO = 5;
    private static final int THERE_IS_NONE = 6;

    private static final int TAPE_BYTES = 900;
    private static final int FED_BYTES = 20;
    private static final int MOST_LINES = 10;
    private static final int MOST_WAYS = 2 * MOST_LINES;
    private static final int MOST_ACTS = 4;
    private static final int MOST_WANTS = 6;
    private static final int MOST_MARKS = 4;
    private static final int MOST_LAID = 9;
    private static final int MOST_TRAIL = MOST_WAYS * MOST_LAID;
    private static final int COUNTERS = 4;
    private static final int MOST_COUNT = 99;
    private static final int MOST_BOUND = 3;
    private static final int MOST_INPUTS = 256;
    private static final int PATH_STEPS = 99;

    /** 180 ways laid and 40 gives of 18 at most are 900 ways taken: no run has more than 901 steps. */
    private static final int MOST_STEPS = 1000;

    private static final int UNTOLD = -1;
    private static final int GOAL_END = 0;
    private static final int GOAL_TO = 1;
    private static final int GOAL_IF = 2;

    private static final int GOES_ON = 0;
    private static final int BY_END = 1;
    private static final int BY_BURNT_WAY = 2;
    private static final int BY_UNTOLD_LINE = 3;

    private static final int ACT_UP = 0;
    private static final int ACT_DOWN = 1;
    private static final int ACT_SET = 2;
    private static final int ACT_GIVE = 3;

    private int latestTrouble = NO_TROUBLE;
    private boolean loaded = false;
    private final Reader reader = new Reader();
    /** The program as it was told, and as it is now. */
    private final Net toldNet = new Net();
    private final Net net = new Net();
    private final Net trialNet = new Net();
    private final Wants wants = new Wants();
    private final Walk walk = new Walk();
    private final Walk trialWalk = new Walk();
    private final Walk otherWalk = new Walk();
    private final Survey survey = new Survey();
    private final Trail trailRow = new Trail();
    private final Least leastPrograms = new Least();
    private final Marks marks = new Marks();

    public BurntWays() {
    }

    // ---- the program

    public int feed(int a, int b, int c, int d, int e) {
        if (reader.tapeLength + FED_BYTES > TAPE_BYTES) {
            return NONE;
        }
        reader.put(a);
        reader.put(b);
        reader.put(c);
        reader.put(d);
        reader.put(e);
        return reader.tapeLength;
    }

    public int program(int n) {
        if (n < 0 || n > reader.tapeLength) {
            return refuse(BAD_NUMBER);
        }
        if (!reader.read(n)) {
            return refuse(FAULTY);
        }
        toldNet.copyFrom(reader.net);
        net.copyFrom(reader.net);
        wants.copyFrom(reader.wants);
        loaded = true;
        marks.count = 0;
        leastPrograms.forget();
        forgetWhatWasFound();
        walk.begin(net, 0, 0, 0, 0);
        return grant(net.lines);
    }

    public int fault() {
        return reader.fault;
    }

    public int where() {
        return latestTrouble == FAULTY ? reader.faultPlace : NONE;
    }

    // ---- runs

    public boolean start(int a, int b, int c, int d) {
        if (!mayStart(a, b, c, d)) {
            return false;
        }
        walk.begin(net, a, b, c, d);
        return true;
    }

    public int steps(int n) {
        if (!loaded) {
            return refuse(NONE_SUCH);
        }
        if (n < 1 || n > 99) {
            return refuse(BAD_NUMBER);
        }
        if (walk.ended != GOES_ON) {
            return refuse(THERE_IS_NONE);
        }
        return grant(walk.goOn(net, n));
    }

    public int run() {
        return isLoaded() ? walk.goOn(net, MOST_STEPS) : NONE;
    }

    public int now(int what) {
        if (!loaded) {
            return refuse(NONE_SUCH);
        }
        switch (what) {
            case 0:
                return grant(walk.at);
            case 1:
                return grant(walk.stepCount);
            case 2:
                return grant(walk.ended);
            case 3:
                return grant(walk.takenInAll);
            default:
                return refuse(NONE_SUCH);
        }
    }

    public int counter(int x) {
        if (!loaded || x < 0 || x >= COUNTERS) {
            return refuse(NONE_SUCH);
        }
        return grant(walk.counters[x]);
    }

    public int left(int way) {
        if (!net.hasWay(way)) {
            return refuse(NONE_SUCH);
        }
        return grant(net.laid[way] - walk.taken[way]);
    }

    public int burnt() {
        return isLoaded() ? walk.burntWays(net) : NONE;
    }

    public int path(int i) {
        if (!loaded || i < 0 || i > PATH_STEPS || i > walk.stepCount) {
            return refuse(NONE_SUCH);
        }
        return grant(walk.linesBehind[i]);
    }

    public int answer(int a, int b, int c, int d) {
        if (!mayStart(a, b, c, d)) {
            return NONE;
        }
        trialWalk.begin(net, a, b, c, d);
        trialWalk.goOn(net, MOST_STEPS);
        if (trialWalk.ended != BY_END) {
            return refuse(NOT_SO);
        }
        return grant(trialWalk.counters[0]);
    }

    public int parted(int input, int other) {
        if (!loaded || !isInput(input) || !isInput(other)) {
            return refuse(NONE_SUCH);
        }
        trialWalk.beginInput(net, MOST_BOUND, input);
        otherWalk.beginInput(net, MOST_BOUND, other);
        return grant(trialWalk.partsFrom(otherWalk, net));
    }

    public int mark() {
        if (!loaded) {
            return refuse(NONE_SUCH);
        }
        if (marks.count >= MOST_MARKS) {
            return refuse(NO_ROOM);
        }
        return grant(marks.keep(net, walk));
    }

    public boolean back(int mark) {
        if (mark < 0 || mark >= marks.count) {
            refuse(NONE_SUCH);
            return false;
        }
        net.copyFrom(marks.nets[mark]);
        walk.copyFrom(marks.walks[mark]);
        forgetWhatWasFound();
        grant(mark);
        return true;
    }

    // ---- all inputs

    public int must(int k) {
        return surveyed(k) ? survey.mustWays : NONE;
    }

    public int unburnt(int k) {
        return surveyed(k) ? survey.untakenWays : NONE;
    }

    public int whole(int k) {
        return surveyed(k) ? survey.wholeInput : NONE;
    }

    public int longest(int k) {
        return surveyed(k) ? survey.longestSteps : NONE;
    }

    public int longestAt(int k) {
        return surveyed(k) ? survey.longestInput : NONE;
    }

    public int ends(int k, int end) {
        if (!loaded || end < BY_END || end > BY_UNTOLD_LINE) {
            return refuse(NONE_SUCH);
        }
        return surveyed(k) ? survey.endings[end] : NONE;
    }

    public int wanted() {
        if (!isLoaded()) {
            return NONE;
        }
        int answered = 0;
        for (int i = 0; i < wants.count; i++) {
            trialWalk.begin(net, wants.part(i, 0), wants.part(i, 1), wants.part(i, 2), wants.part(i, 3));
            trialWalk.goOn(net, MOST_STEPS);
            if (trialWalk.ended == BY_END && trialWalk.counters[0] == wants.part(i, COUNTERS)) {
                answered |= 1 << i;
            }
        }
        return answered;
    }

    // ---- the net

    public int come() {
        return isLoaded() ? net.reach(NONE) : NONE;
    }

    public int even() {
        if (!isLoaded()) {
            return NONE;
        }
        return net.isEven() ? 1 : 0;
    }

    public int degree(int line) {
        if (!net.hasLine(line)) {
            refuse(NONE_SUCH);
            return NO_DEGREE;
        }
        return grant(net.degreeOf(line));
    }

    public int trails() {
        if (!isLoaded()) {
            return NONE;
        }
        trailRow.find(net);
        return trailRow.length;
    }

    public int trail(int i) {
        if (!loaded || i < 0) {
            return refuse(NONE_SUCH);
        }
        trailRow.find(net);
        if (trailRow.length == NOTHING) {
            return refuse(THERE_IS_NONE);
        }
        if (i >= trailRow.length) {
            return refuse(NONE_SUCH);
        }
        return grant(trailRow.ways[i]);
    }

    public int keys() {
        return isLoaded() ? net.keyWays() : NONE;
    }

    public int seen(int k) {
        return surveyed(k) ? survey.seenLines : NONE;
    }

    public int first(int k, int line) {
        if (!net.hasLine(line)) {
            return refuse(NONE_SUCH);
        }
        return surveyed(k) ? survey.firstInputs[line] : NONE;
    }

    public int most(int k, int way) {
        if (!net.hasWay(way)) {
            return refuse(NONE_SUCH);
        }
        return surveyed(k) ? survey.mostTaken[way] : NONE;
    }

    public int spare(int k, int way) {
        if (!net.hasWay(way)) {
            return refuse(NONE_SUCH);
        }
        return surveyed(k) ? greatestSpare(way) : NONE;
    }

    private int greatestSpare(int way) {
        trialNet.copyFrom(net);
        for (int laid = 1; laid < net.laid[way]; laid++) {
            trialNet.laid[way] = laid;
            if (survey.firstUnlike(trialNet) == NOTHING) {
                return net.laid[way] - laid;
            }
        }
        return 0;
    }

    public int loop(int lines, int rounds) {
        if (lines < 1 || lines > 9 || rounds < 1 || rounds > 99) {
            return refuse(BAD_NUMBER);
        }
        // A line alone is gone through once more than its way to itself is taken.
        int roundsOfCopy = lines == 1 ? MOST_LAID + 1 : MOST_LAID;
        int copies = (rounds + roundsOfCopy - 1) / roundsOfCopy;
        return grant(lines * copies);
    }

    // ---- folded

    public int alike(int line, int other) {
        if (!isPair(line, other)) {
            return refuse(NONE_SUCH);
        }
        return grant(net.areAlike(line, other) ? 1 : 0);
    }

    public int unfair(int line, int other, int k) {
        if (!isPair(line, other)) {
            return refuse(NONE_SUCH);
        }
        if (!surveyed(k)) {
            return NONE;
        }
        if (!net.areAlike(line, other)) {
            return refuse(NOT_SO);
        }
        trialNet.copyMerged(net, line, other);
        return grant(survey.firstUnlike(trialNet));
    }

    public int fold(int k) {
        if (!surveyed(k)) {
            return NONE;
        }
        int merged = 0;
        for (int round = 0; round < MOST_LINES && mergeFirstFair(); round++) {
            merged++;
        }
        forgetWhatWasFound();
        walk.begin(net, 0, 0, 0, 0);
        return merged;
    }

    public int same(int k) {
        return surveyed(k) ? survey.countAlike(toldNet) : NONE;
    }

    private boolean isPair(int line, int other) {
        return net.hasLine(line) && net.hasLine(other) && line < other;
    }

    /** A fair merge changes no ending, so the survey's endings stand while a fold goes on. */
    private boolean mergeFirstFair() {
        for (int lower = 0; lower < net.lines; lower++) {
            for (int other = lower + 1; other < net.lines; other++) {
                if (!net.areAlike(lower, other)) {
                    continue;
                }
                trialNet.copyMerged(net, lower, other);
                if (survey.firstUnlike(trialNet) == NOTHING) {
                    net.copyFrom(trialNet);
                    return true;
                }
            }
        }
        return false;
    }

    // ---- the least

    public int least(int w) {
        if (!loaded) {
            return refuse(NONE_SUCH);
        }
        if (!isLaying(w)) {
            return refuse(BAD_NUMBER);
        }
        if (wants.count == 0) {
            return refuse(THERE_IS_NONE);
        }
        return grant(leastPrograms.linesOf(wants, w));
    }

    public int leastLine(int w, int line) {
        if (!loaded || line < 0 || line >= Least.MOST) {
            return refuse(NONE_SUCH);
        }
        if (!isLaying(w)) {
            return refuse(BAD_NUMBER);
        }
        if (wants.count == 0) {
            return refuse(THERE_IS_NONE);
        }
        int lines = leastPrograms.linesOf(wants, w);
        if (lines == NOTHING) {
            return refuse(THERE_IS_NONE);
        }
        if (line >= lines) {
            return refuse(NONE_SUCH);
        }
        return grant(leastPrograms.numberOf(w, line));
    }

    private static boolean isLaying(int w) {
        return w >= 1 && w <= MOST_LAID;
    }

    // ---- what is seen

    public int line(int i, int what) {
        if (!net.hasLine(i) || what < 0 || what > 6) {
            return refuse(NONE_SUCH);
        }
        if (!net.tells(i)) {
            return refuse(THERE_IS_NONE);
        }
        return grant(net.partOf(i, what));
    }

    public int led(int i) throws NoSuchElementException {
        int line = net.toldLine(i);
        if (line == NONE) {
            throw new NoSuchElementException("no such line is told");
        }
        return line;
    }

    public int size(int what) {
        switch (what) {
            case 0:
                return net.lines;
            case 1:
                return net.toldLines();
            case 2:
                return net.wayCount();
            case 3:
                return wants.count;
            case 4:
                return marks.count;
            case 5:
                return reader.tapeLength;
            case 6:
                return net.laidInAll();
            default:
                return NONE;
        }
    }

    public int trouble() {
        return latestTrouble;
    }

    // ---- refusals

    private int refuse(int number) {
        latestTrouble = number;
        return NONE;
    }

    private int grant(int answer) {
        latestTrouble = NO_TROUBLE;
        return answer;
    }

    private boolean isLoaded() {
        latestTrouble = loaded ? NO_TROUBLE : NONE_SUCH;
        return loaded;
    }

    private boolean mayStart(int a, int b, int c, int d) {
        if (!isLoaded()) {
            return false;
        }
        if (!isCount(a) || !isCount(b) || !isCount(c) || !isCount(d)) {
            refuse(BAD_NUMBER);
            return false;
        }
        return true;
    }

    /** Whether there is a program, and k is a bound; if so, the survey holds all inputs to k. */
    private boolean surveyed(int k) {
        if (!isLoaded()) {
            return false;
        }
        if (k < 0 || k > MOST_BOUND) {
            refuse(BAD_NUMBER);
            return false;
        }
        survey.look(net, k);
        return true;
    }

    private static boolean isCount(int number) {
        return number >= 0 && number <= MOST_COUNT;
    }

    private static boolean isInput(int number) {
        return number >= 0 && number < MOST_INPUTS;
    }

    /** The program is another one from now on. */
    private void forgetWhatWasFound() {
        survey.bound = NONE;
        trailRow.known = false;
    }

    /** Lines with their acts and goals, and the ways between them: a program but for its wants. */
    private static final class Net {
        int lines = 0;
        final int[] goals = new int[MOST_LINES];
        final int[] asked = new int[MOST_LINES];
        final int[] actCounts = new int[MOST_LINES];
        final int[] actKinds = new int[MOST_LINES * MOST_ACTS];
        /** The counter of an act; of a give the line. */
        final int[] actTargets = new int[MOST_LINES * MOST_ACTS];
        final int[] actValues = new int[MOST_LINES * MOST_ACTS];
        final int[] leads = new int[MOST_WAYS];
        /** 0 where there is no way: each way that there is, is laid once at least. */
        final int[] laid = new int[MOST_WAYS];

        Net() {
            clear();
        }

        void clear() {
            lines = 0;
            for (int line = 0; line < MOST_LINES; line++) {
                untell(line);
            }
        }

        private void untell(int line) {
            goals[line] = UNTOLD;
            asked[line] = NOTHING;
            actCounts[line] = 0;
            for (int way = 2 * line; way <= 2 * line + 1; way++) {
                leads[way] = NOTHING;
                laid[way] = 0;
            }
        }

        void copyFrom(Net other) {
            lines = other.lines;
            System.arraycopy(other.goals, 0, goals, 0, MOST_LINES);
            System.arraycopy(other.asked, 0, asked, 0, MOST_LINES);
            System.arraycopy(other.actCounts, 0, actCounts, 0, MOST_LINES);
            System.arraycopy(other.actKinds, 0, actKinds, 0, MOST_LINES * MOST_ACTS);
            System.arraycopy(other.actTargets, 0, actTargets, 0, MOST_LINES * MOST_ACTS);
            System.arraycopy(other.actValues, 0, actValues, 0, MOST_LINES * MOST_ACTS);
            System.arraycopy(other.leads, 0, leads, 0, MOST_WAYS);
            System.arraycopy(other.laid, 0, laid, 0, MOST_WAYS);
        }

        boolean hasLine(int line) {
            return line >= 0 && line < lines;
        }

        /** Of a line that there is. */
        boolean tells(int line) {
            return goals[line] != UNTOLD;
        }

        boolean hasWay(int way) {
            return way >= 0 && way < MOST_WAYS && laid[way] > 0;
        }

        int toldLines() {
            int told = 0;
            for (int line = 0; line < lines; line++) {
                told += tells(line) ? 1 : 0;
            }
            return told;
        }

        int toldLine(int i) {
            int before = 0;
            for (int line = 0; line < lines; line++) {
                if (tells(line)) {
                    if (before == i) {
                        return line;
                    }
                    before++;
                }
            }
            return NONE;
        }

        int wayCount() {
            return Integer.bitCount(wayBits());
        }

        int wayBits() {
            int bits = 0;
            for (int way = 0; way < MOST_WAYS; way++) {
                bits |= hasWay(way) ? 1 << way : 0;
            }
            return bits;
        }

        int laidInAll() {
            int sum = 0;
            for (int way = 0; way < MOST_WAYS; way++) {
                sum += laid[way];
            }
            return sum;
        }

        int partOf(int line, int what) {
            switch (what) {
                case 0:
                    return actCounts[line];
                case 1:
                    return goals[line];
                case 2:
                    return asked[line];
                case 3:
                    return leads[2 * line];
                case 4:
                    return laid[2 * line];
                case 5:
                    return leads[2 * line + 1];
                default:
                    return laid[2 * line + 1];
            }
        }

        int degreeOf(int line) {
            int degree = laid[2 * line] + laid[2 * line + 1];
            for (int way = 0; way < MOST_WAYS; way++) {
                degree -= leads[way] == line ? laid[way] : 0;
            }
            return degree;
        }

        /** The lines that are come to from the first on, as bits, as if one way (or NONE) weren't there. */
        int reach(int without) {
            int reached = 1;
            for (int round = 0; round < lines; round++) {
                for (int way = 0; way < MOST_WAYS; way++) {
                    if (hasWay(way) && way != without && (reached >> way / 2 & 1) == 1) {
                        reached |= 1 << leads[way];
                    }
                }
            }
            return reached;
        }

        int keyWays() {
            int all = reach(NONE);
            int bits = 0;
            for (int way = 0; way < MOST_WAYS; way++) {
                if (hasWay(way) && reach(way) != all) {
                    bits |= 1 << way;
                }
            }
            return bits;
        }

        boolean isEven() {
            return isBalanced() && hangTogether(laid, 0);
        }

        private boolean isBalanced() {
            int oneMore = degreeOf(0);
            int oneLess = 0;
            for (int line = 1; line < lines; line++) {
                int degree = degreeOf(line);
                if (degree != 0 && degree != -1) {
                    return false;
                }
                oneLess -= degree;
            }
            return oneMore == oneLess && oneMore <= 1;
        }

        /** Whether all ways of which something is left hang together with a line, whichever way they lead. */
        boolean hangTogether(int[] waysLeft, int line) {
            int group = 1 << line;
            for (int round = 0; round < lines; round++) {
                for (int way = 0; way < MOST_WAYS; way++) {
                    int both = waysLeft[way] > 0 ? 1 << way / 2 | 1 << leads[way] : 0;
                    group |= (group & both) != 0 ? both : 0;
                }
            }
            for (int way = 0; way < MOST_WAYS; way++) {
                if (waysLeft[way] > 0 && (group >> way / 2 & 1) == 0) {
                    return false;
                }
            }
            return true;
        }

        boolean areAlike(int lower, int other) {
            return tells(lower) && tells(other)
                    && goals[lower] == goals[other]
                    && asked[lower] == asked[other]
                    && leads[2 * lower] == leads[2 * other]
                    && leads[2 * lower + 1] == leads[2 * other + 1]
                    && haveSameActs(lower, other);
        }

        private boolean haveSameActs(int lower, int other) {
            if (actCounts[lower] != actCounts[other]) {
                return false;
            }
            for (int i = 0; i < actCounts[lower]; i++) {
                int one = lower * MOST_ACTS + i;
                int two = other * MOST_ACTS + i;
                if (actKinds[one] != actKinds[two] || actTargets[one] != actTargets[two]
                        || actValues[one] != actValues[two]) {
                    return false;
                }
            }
            return true;
        }

        void copyMerged(Net before, int lower, int other) {
            copyFrom(before);
            for (int side = 0; side <= 1; side++) {
                int way = 2 * lower + side;
                laid[way] = Math.min(MOST_LAID, laid[way] + laid[2 * other + side]);
            }
            untell(other);
            for (int way = 0; way < MOST_WAYS; way++) {
                leads[way] = leads[way] == other ? lower : leads[way];
            }
            for (int act = 0; act < MOST_LINES * MOST_ACTS; act++) {
                if (actKinds[act] == ACT_GIVE && actTargets[act] == other) {
                    actTargets[act] = lower;
                }
            }
        }
    }

    /** What is wanted: of each want four counters, and what a is to be. */
    private static final class Wants {
        private static final int PARTS = COUNTERS + 1;

        int count = 0;
        final int[] parts = new int[MOST_WANTS * PARTS];

        int part(int want, int i) {
            return parts[want * PARTS + i];
        }

        void put(int want, int i, int number) {
            parts[want * PARTS + i] = number;
        }

        void copyFrom(Wants other) {
            count = other.count;
            System.arraycopy(other.parts, 0, parts, 0, MOST_WANTS * PARTS);
        }
    }

    /** A run, step by step. */
    private static final class Walk {
        int at = 0;
        int stepCount = 0;
        int ended = GOES_ON;
        int takenInAll = 0;
        int seenLines = 0;
        final int[] counters = new int[COUNTERS];
        /** How often each way was taken since it was given back, and ever. */
        final int[] taken = new int[MOST_WAYS];
        final int[] everTaken = new int[MOST_WAYS];
        /** The acts that have given, as bits. */
        private long given = 0;
        final int[] linesBehind = new int[PATH_STEPS + 1];

        void begin(Net net, int a, int b, int c, int d) {
            counters[0] = a;
            counters[1] = b;
            counters[2] = c;
            counters[3] = d;
            at = 0;
            stepCount = 0;
            takenInAll = 0;
            seenLines = 1;
            given = 0;
            linesBehind[0] = 0;
            Arrays.fill(taken, 0);
            Arrays.fill(everTaken, 0);
            ended = net.goals[0] == UNTOLD ? BY_UNTOLD_LINE : GOES_ON;
        }

        void beginInput(Net net, int bound, int input) {
            // It divides: a bound that isn't told must not make it 0.
            int base = Math.max(bound, 0) + 1;
            int d = input % base;
            int c = input / base % base;
            int b = input / (base * base) % base;
            int a = input / (base * base * base) % base;
            begin(net, a, b, c, d);
        }

        void copyFrom(Walk other) {
            at = other.at;
            stepCount = other.stepCount;
            ended = other.ended;
            takenInAll = other.takenInAll;
            seenLines = other.seenLines;
            given = other.given;
            System.arraycopy(other.counters, 0, counters, 0, COUNTERS);
            System.arraycopy(other.taken, 0, taken, 0, MOST_WAYS);
            System.arraycopy(other.everTaken, 0, everTaken, 0, MOST_WAYS);
            System.arraycopy(other.linesBehind, 0, linesBehind, 0, PATH_STEPS + 1);
        }

        /** So many steps, if it doesn't end before: how many. */
        int goOn(Net net, int most) {
            int before = stepCount;
            for (int i = 0; i < most && ended == GOES_ON; i++) {
                step(net);
            }
            return stepCount - before;
        }

        private void step(Net net) {
            int acts = net.actCounts[at];
            for (int i = 0; i < acts; i++) {
                act(net, at * MOST_ACTS + i);
            }
            stepCount++;
            int goal = net.goals[at];
            if (goal == GOAL_END) {
                ended = BY_END;
            } else {
                boolean isElse = goal == GOAL_IF && counters[net.asked[at]] == 0;
                take(net, isElse ? 2 * at + 1 : 2 * at);
            }
            if (stepCount <= PATH_STEPS) {
                linesBehind[stepCount] = at;
            }
        }

        private void act(Net net, int act) {
            int kind = net.actKinds[act];
            int target = net.actTargets[act];
            if (kind == ACT_SET) {
                counters[target] = net.actValues[act];
            } else if (kind == ACT_UP && counters[target] < MOST_COUNT) {
                counters[target]++;
            } else if (kind == ACT_DOWN && counters[target] > 0) {
                counters[target]--;
            } else if (kind == ACT_GIVE && (given >> act & 1L) == 0) {
                given |= 1L << act;
                taken[2 * target] = 0;
                taken[2 * target + 1] = 0;
            }
        }

        private void take(Net net, int way) {
            if (taken[way] >= net.laid[way]) {
                ended = BY_BURNT_WAY;
                return;
            }
            taken[way]++;
            everTaken[way]++;
            takenInAll++;
            at = net.leads[way];
            seenLines |= 1 << at;
            if (net.goals[at] == UNTOLD) {
                ended = BY_UNTOLD_LINE;
            }
        }

        int burntWays(Net net) {
            int bits = 0;
            for (int way = 0; way < MOST_WAYS; way++) {
                if (net.hasWay(way) && taken[way] >= net.laid[way]) {
                    bits |= 1 << way;
                }
            }
            return bits;
        }

        /** The step with which two runs that have just begun part. */
        int partsFrom(Walk other, Net net) {
            for (int i = 0; i < MOST_STEPS && ended == GOES_ON; i++) {
                step(net);
                other.step(net);
                if (at != other.at || ended != other.ended) {
                    return stepCount;
                }
            }
            return NOTHING;
        }

        /** How it ended, and with which counters, as one number. */
        int ending() {
            int number = ended;
            for (int x = 0; x < COUNTERS; x++) {
                number = number * (MOST_COUNT + 1) + counters[x];
            }
            return number;
        }
    }

    /** The runs of a program with all inputs to a bound. */
    private static final class Survey {
        /** NONE as long as no program was looked at. */
        int bound = NONE;
        private int inputs = 0;
        int mustWays = 0;
        int untakenWays = 0;
        int wholeInput = NOTHING;
        int longestSteps = NONE;
        int longestInput = 0;
        int seenLines = 0;
        final int[] endings = new int[BY_UNTOLD_LINE + 1];
        final int[] firstInputs = new int[MOST_LINES];
        final int[] mostTaken = new int[MOST_WAYS];
        private final int[] endingOf = new int[MOST_INPUTS];
        private final Walk walk = new Walk();

        void look(Net net, int k) {
            if (bound == k) {
                return;
            }
            bound = k;
            inputs = (k + 1) * (k + 1) * (k + 1) * (k + 1);
            mustWays = net.wayBits();
            untakenWays = mustWays;
            wholeInput = NOTHING;
            longestSteps = NONE;
            seenLines = 0;
            Arrays.fill(endings, 0);
            Arrays.fill(firstInputs, NOTHING);
            Arrays.fill(mostTaken, 0);
            for (int input = 0; input < inputs; input++) {
                walk.beginInput(net, k, input);
                walk.goOn(net, MOST_STEPS);
                noteRun(net, input);
                noteLines(input);
                noteWays();
            }
        }

        private void noteRun(Net net, int input) {
            endingOf[input] = walk.ending();
            endings[walk.ended]++;
            if (walk.stepCount > longestSteps) {
                longestSteps = walk.stepCount;
                longestInput = input;
            }
            if (wholeInput == NOTHING && walk.burntWays(net) == net.wayBits()) {
                wholeInput = input;
            }
        }

        private void noteLines(int input) {
            int newlySeen = walk.seenLines & ~seenLines;
            for (int line = 0; newlySeen != 0 && line < MOST_LINES; line++) {
                if ((newlySeen >> line & 1) == 1) {
                    firstInputs[line] = input;
                }
            }
            seenLines |= newlySeen;
        }

        private void noteWays() {
            for (int way = 0; way < MOST_WAYS; way++) {
                int times = walk.everTaken[way];
                if (times == 0) {
                    mustWays &= ~(1 << way);
                } else {
                    untakenWays &= ~(1 << way);
                    mostTaken[way] = Math.max(mostTaken[way], times);
                }
            }
        }

        /** The first input by which another program doesn't end as the one that was looked at. */
        int firstUnlike(Net other) {
            for (int input = 0; input < inputs; input++) {
                if (!endsAlike(other, input)) {
                    return input;
                }
            }
            return NOTHING;
        }

        int countAlike(Net other) {
            int alike = 0;
            for (int input = 0; input < inputs; input++) {
                alike += endsAlike(other, input) ? 1 : 0;
            }
            return alike;
        }

        private boolean endsAlike(Net other, int input) {
            walk.beginInput(other, bound, input);
            walk.goOn(other, MOST_STEPS);
            return walk.ending() == endingOf[input];
        }
    }

    /** The first row of all ways, as often as they are laid, one behind the other. */
    private static final class Trail {
        boolean known = false;
        int length = NOTHING;
        final int[] ways = new int[MOST_TRAIL];
        private final int[] waysLeft = new int[MOST_WAYS];

        void find(Net net) {
            if (known) {
                return;
            }
            known = true;
            length = NOTHING;
            if (net.isEven()) {
                goThrough(net);
            }
        }

        private void goThrough(Net net) {
            System.arraycopy(net.laid, 0, waysLeft, 0, MOST_WAYS);
            int all = net.laidInAll();
            int line = 0;
            length = 0;
            for (int i = 0; i < all && i < MOST_TRAIL; i++) {
                int way = nextWay(net, line);
                if (!net.hasWay(way)) {
                    return;
                }
                ways[i] = way;
                waysLeft[way]--;
                line = net.leads[way];
                length++;
            }
        }

        /** In a balanced net what is left can be gone through just if it hangs together with where one is. */
        private int nextWay(Net net, int line) {
            int to = 2 * line;
            if (waysLeft[to] == 0) {
                return to + 1;
            }
            if (waysLeft[to + 1] == 0) {
                return to;
            }
            waysLeft[to]--;
            boolean hangs = net.hangTogether(waysLeft, net.leads[to]);
            waysLeft[to]++;
            return hangs ? to : to + 1;
        }
    }

    /** The least programs that answer all wants, one for each number of times that ways are laid. */
    private static final class Least {
        static final int MOST = 3;
        private static final int NOT_SOUGHT = 0;
        private static final int ACT_KINDS = 4;
        private static final int UP_A = 1;
        private static final int DOWN_A = 2;
        private static final int DOWN_B = 3;
        /** Some 150,000 beginnings of programs of three lines. */
        private static final int MOST_TRIES = 1000000;

        private final int[] lineCounts = new int[MOST_LAID + 1];
        private final int[] found = new int[(MOST_LAID + 1) * MOST];
        private final int[] numbers = new int[MOST];
        private final int[] acts = new int[MOST];
        private final int[] toLines = new int[MOST];
        private final int[] elseLines = new int[MOST];
        private final int[] taken = new int[2 * MOST];

        void forget() {
            Arrays.fill(lineCounts, NOT_SOUGHT);
        }

        int linesOf(Wants wants, int w) {
            if (lineCounts[w] == NOT_SOUGHT) {
                lineCounts[w] = seek(wants, w);
                System.arraycopy(numbers, 0, found, w * MOST, MOST);
            }
            return lineCounts[w];
        }

        int numberOf(int w, int line) {
            return found[w * MOST + line];
        }

        private int seek(Wants wants, int w) {
            for (int n = 1; n <= MOST; n++) {
                if (seekOf(n, wants, w)) {
                    return n;
                }
            }
            return NOTHING;
        }

        /** Counts the numbers of the lines up, and leaves out all programs that begin with lines that fail. */
        private boolean seekOf(int n, Wants wants, int w) {
            int lineNumbers = ACT_KINDS * goalsOf(n);
            int line = 0;
            numbers[0] = NONE;
            for (int tries = 0; tries < MOST_TRIES && line >= 0; tries++) {
                numbers[line]++;
                if (numbers[line] >= lineNumbers) {
                    line--;
                    continue;
                }
                tell(line, n);
                if (!mayAnswer(wants, w, line + 1)) {
                    continue;
                }
                if (line + 1 == n) {
                    return true;
                }
                line++;
                numbers[line] = NONE;
            }
            return false;
        }

        private static int goalsOf(int n) {
            return 1 + n + n * n;
        }

        private void tell(int line, int n) {
            int goals = goalsOf(n);
            int goal = numbers[line] % goals;
            acts[line] = numbers[line] / goals;
            toLines[line] = NONE;
            elseLines[line] = NONE;
            if (goal > n) {
                toLines[line] = (goal - 1 - n) / n;
                elseLines[line] = (goal - 1 - n) % n;
            } else if (goal > 0) {
                toLines[line] = goal - 1;
            }
        }

        private boolean mayAnswer(Wants wants, int w, int known) {
            for (int want = 0; want < wants.count; want++) {
                if (!mayAnswerOne(wants, want, w, known)) {
                    return false;
                }
            }
            return true;
        }

        /** A run that comes to a line that isn't known yet may still answer. */
        private boolean mayAnswerOne(Wants wants, int want, int w, int known) {
            int a = wants.part(want, 0);
            int b = wants.part(want, 1);
            int line = 0;
            Arrays.fill(taken, 0);
            for (int step = 0; step < MOST_STEPS && line < known; step++) {
                int act = acts[line];
                if (act == UP_A && a < MOST_COUNT) {
                    a++;
                } else if (act == DOWN_A && a > 0) {
                    a--;
                } else if (act == DOWN_B && b > 0) {
                    b--;
                }
                if (toLines[line] == NONE) {
                    return a == wants.part(want, COUNTERS);
                }
                boolean isElse = elseLines[line] != NONE && b == 0;
                int way = isElse ? 2 * line + 1 : 2 * line;
                if (taken[way] >= w) {
                    return false;
                }
                taken[way]++;
                line = isElse ? elseLines[line] : toLines[line];
            }
            return true;
        }
    }

    /** Programs and runs as they were, to go back to. */
    private static final class Marks {
        int count = 0;
        final Net[] nets = new Net[MOST_MARKS];
        final Walk[] walks = new Walk[MOST_MARKS];

        Marks() {
            for (int i = 0; i < MOST_MARKS; i++) {
                nets[i] = new Net();
                walks[i] = new Walk();
            }
        }

        /** There must be room. */
        int keep(Net net, Walk walk) {
            nets[count].copyFrom(net);
            walks[count].copyFrom(walk);
            count++;
            return count - 1;
        }
    }

    /** The tape, and how its text is read into a net and wants; what reads tells whether there is no fault yet. */
    private static final class Reader {
        private static final int FORM = 1;
        private static final int STRANGE_NAME = 2;
        private static final int TOLD_AGAIN = 3;
        private static final int OUT_OF_BOUNDS = 4;
        private static final int MANY = 5;
        private static final int LACKS = 6;

        private static final int WORD_LETTERS = 8;
        /** A word is kept as one number, a letter's place in the alphabet being a digit. */
        private static final long LETTER_BASE = 32;
        private static final char BEFORE_A = 'a' - 1;
        private static final int WHOLE_DIGITS = 3;

        /** In the order of the kinds of tokens from IS_PROGRAM on; a blank behind each. */
        private static final String RESERVED =
                "program line want do up down set give then end to if by else is a b c d ";
        private static final int RESERVED_WORDS = 19;
        private static final int IS_PROGRAM = 0;
        private static final int IS_LINE = 1;
        private static final int IS_WANT = 2;
        private static final int IS_DO = 3;
        private static final int IS_UP = 4;
        private static final int IS_DOWN = 5;
        private static final int IS_SET = 6;
        private static final int IS_GIVE = 7;
        private static final int IS_THEN = 8;
        private static final int IS_END = 9;
        private static final int IS_TO = 10;
        private static final int IS_IF = 11;
        private static final int IS_BY = 12;
        private static final int IS_ELSE = 13;
        private static final int IS_IS = 14;
        private static final int IS_A = 15;
        private static final int IS_NAME = 19;
        private static final int IS_WHOLE = 20;
        private static final int IS_SEMICOLON = 21;
        private static final int IS_COMMA = 22;
        private static final int IS_STRANGE = 23;
        private static final int IS_OVER = 24;

        private final byte[] tape = new byte[TAPE_BYTES];
        int tapeLength = 0;
        final Net net = new Net();
        final Wants wants = new Wants();
        int fault = 0;
        int faultPlace = 0;

        private final long[] reserved = new long[RESERVED_WORDS];
        private final long[] names = new long[MOST_LINES];
        private int textLength = 0;
        /** The token that is looked at: what it is, where it begins and ends, its letters or its number. */
        private int kind = IS_OVER;
        private int place = 0;
        private int behind = 0;
        private long word = 0;
        private int number = 0;

        Reader() {
            int at = 0;
            for (int i = 0; i < RESERVED.length() && at < RESERVED_WORDS; i++) {
                char sign = RESERVED.charAt(i);
                if (sign == ' ') {
                    at++;
                } else {
                    reserved[at] = reserved[at] * LETTER_BASE + (sign - BEFORE_A);
                }
            }
        }

        /** Four bytes, the highest first; there must be room. */
        void put(int four) {
            for (int shift = 24; shift >= 0; shift -= 8) {
                tape[tapeLength] = (byte) (four >> shift);
                tapeLength++;
            }
        }

        /** Whether the first bytes of the tape are the text of a program; the tape is empty then. */
        boolean read(int length) {
            textLength = length;
            tapeLength = 0;
            fault = 0;
            faultPlace = 0;
            behind = 0;
            net.clear();
            wants.count = 0;
            for (int i = 0; i <= TAPE_BYTES; i++) {
                advance();
                boolean fine = kind == IS_PROGRAM ? readNames()
                        : kind == IS_LINE ? readLine()
                        : kind == IS_WANT ? readWant()
                        : fail(FORM);
                if (!fine) {
                    return false;
                }
                if (kind != IS_SEMICOLON) {
                    break;
                }
            }
            if (kind != IS_OVER) {
                return fail(FORM);
            }
            return net.lines > 0 || fail(LACKS);
        }

        private boolean readNames() {
            if (net.lines > 0) {
                return fail(TOLD_AGAIN);
            }
            for (int i = 0; i <= MOST_LINES; i++) {
                advance();
                if (kind != IS_NAME) {
                    return fail(FORM);
                }
                if (findName() != NONE) {
                    return fail(TOLD_AGAIN);
                }
                if (net.lines >= MOST_LINES) {
                    return fail(MANY);
                }
                names[net.lines] = word;
                net.lines++;
                advance();
                if (kind != IS_COMMA) {
                    break;
                }
            }
            return true;
        }

        private boolean readLine() {
            if (net.lines == 0) {
                return fail(LACKS);
            }
            advance();
            if (!isKnownName()) {
                return false;
            }
            int line = findName();
            if (net.tells(line)) {
                return fail(TOLD_AGAIN);
            }
            advance();
            if (kind == IS_DO && !readActs(line)) {
                return false;
            }
            return isWord(IS_THEN) && readGoal(line);
        }

        private boolean readActs(int line) {
            for (int i = 0; i <= MOST_ACTS; i++) {
                advance();
                if (kind < IS_UP || kind > IS_GIVE) {
                    return fail(FORM);
                }
                if (i >= MOST_ACTS) {
                    return fail(MANY);
                }
                if (!readAct(line * MOST_ACTS + i)) {
                    return false;
                }
                net.actCounts[line]++;
                if (kind != IS_COMMA) {
                    break;
                }
            }
            return true;
        }

        private boolean readAct(int act) {
            int actKind = kind - IS_UP + ACT_UP;
            advance();
            if (actKind == ACT_GIVE ? !isKnownName() : !isCounter()) {
                return false;
            }
            net.actKinds[act] = actKind;
            net.actTargets[act] = actKind == ACT_GIVE ? findName() : kind - IS_A;
            net.actValues[act] = 0;
            advance();
            if (actKind != ACT_SET) {
                return true;
            }
            if (!isWhole(0, 9)) {
                return false;
            }
            net.actValues[act] = number;
            advance();
            return true;
        }

        private boolean readGoal(int line) {
            advance();
            switch (kind) {
                case IS_END:
                    net.goals[line] = GOAL_END;
                    advance();
                    return true;
                case IS_TO:
                    net.goals[line] = GOAL_TO;
                    return readWay(2 * line);
                case IS_IF:
                    net.goals[line] = GOAL_IF;
                    return readAsked(line) && isWord(IS_TO) && readWay(2 * line)
                            && isWord(IS_ELSE) && readWay(2 * line + 1);
                default:
                    return fail(FORM);
            }
        }

        private boolean readAsked(int line) {
            advance();
            if (!isCounter()) {
                return false;
            }
            net.asked[line] = kind - IS_A;
            advance();
            return true;
        }

        private boolean readWay(int way) {
            advance();
            if (!isKnownName()) {
                return false;
            }
            net.leads[way] = findName();
            advance();
            if (!isWord(IS_BY)) {
                return false;
            }
            advance();
            if (!isWhole(1, MOST_LAID)) {
                return false;
            }
            net.laid[way] = number;
            advance();
            return true;
        }

        private boolean readWant() {
            if (wants.count >= MOST_WANTS) {
                return fail(MANY);
            }
            for (int i = 0; i < COUNTERS; i++) {
                if (i > 0 && kind != IS_COMMA) {
                    return fail(FORM);
                }
                advance();
                if (!isWhole(0, 9)) {
                    return false;
                }
                wants.put(wants.count, i, number);
                advance();
            }
            if (!isWord(IS_IS)) {
                return false;
            }
            advance();
            if (!isWhole(0, MOST_COUNT)) {
                return false;
            }
            wants.put(wants.count, COUNTERS, number);
            wants.count++;
            advance();
            return true;
        }

        private boolean fail(int faultNumber) {
            fault = faultNumber;
            faultPlace = place;
            return false;
        }

        private boolean isWord(int wordKind) {
            return kind == wordKind || fail(FORM);
        }

        private boolean isCounter() {
            return kind >= IS_A && kind < IS_A + COUNTERS || fail(FORM);
        }

        private boolean isKnownName() {
            if (kind != IS_NAME) {
                return fail(FORM);
            }
            return findName() != NONE || fail(STRANGE_NAME);
        }

        private boolean isWhole(int low, int high) {
            if (kind != IS_WHOLE) {
                return fail(FORM);
            }
            return number >= low && number <= high || fail(OUT_OF_BOUNDS);
        }

        private int findName() {
            for (int line = 0; line < net.lines; line++) {
                if (names[line] == word) {
                    return line;
                }
            }
            return NONE;
        }

        /** Looks at the next token; at the end of the text it stays there. */
        private void advance() {
            place = behind;
            while (place < textLength && tape[place] == ' ') {
                place++;
            }
            behind = place;
            if (place >= textLength) {
                kind = IS_OVER;
                return;
            }
            byte sign = tape[place];
            if (sign >= 'a' && sign <= 'z') {
                lookAtWord();
            } else if (sign >= '0' && sign <= '9') {
                lookAtWhole();
            } else {
                kind = sign == ';' ? IS_SEMICOLON : sign == ',' ? IS_COMMA : IS_STRANGE;
                behind++;
            }
        }

        private void lookAtWord() {
            word = 0;
            while (behind < textLength && tape[behind] >= 'a' && tape[behind] <= 'z') {
                word = word * LETTER_BASE + (tape[behind] - BEFORE_A);
                behind++;
            }
            kind = behind - place <= WORD_LETTERS ? IS_NAME : IS_STRANGE;
            for (int i = 0; i < RESERVED_WORDS && kind == IS_NAME; i++) {
                kind = reserved[i] == word ? i : kind;
            }
        }

        private void lookAtWhole() {
            number = 0;
            while (behind < textLength && tape[behind] >= '0' && tape[behind] <= '9') {
                number = number * 10 + (tape[behind] - '0');
                behind++;
            }
            kind = behind - place <= WHOLE_DIGITS ? IS_WHOLE : IS_STRANGE;
        }
    }
}
