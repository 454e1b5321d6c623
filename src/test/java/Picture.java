import java.util.ArrayList;
import java.util.List;

/** All that an object answers, TROUBLE aside; the object isn't of use any more then. */
final class Picture {
    private final BurntWays x;
    private final List<String> rows = new ArrayList<>();

    private Picture(BurntWays x) {
        this.x = x;
    }

    static List<String> of(BurntWays x) {
        Picture picture = new Picture(x);
        picture.sizes();
        picture.net();
        picture.run();
        picture.allInputs();
        picture.least();
        picture.marks();
        picture.tape();
        return picture.rows;
    }

    private void add(String what, int answer) {
        rows.add(what + " " + answer);
    }

    private void sizes() {
        add("fault", x.fault());
        for (int what = 0; what <= 6; what++) {
            add("size " + what, x.size(what));
        }
    }

    private void net() {
        int lines = x.size(0);
        for (int line = 0; line < lines; line++) {
            for (int what = 0; what <= 6; what++) {
                add("line " + line + " " + what, x.line(line, what));
            }
            add("degree " + line, x.degree(line));
        }
        for (int i = 0; i <= x.size(1); i++) {
            add("led " + i, Check.led(x, i));
        }
        add("come", x.come());
        add("even", x.even());
        add("keys", x.keys());
        add("trails", x.trails());
        for (int i = 0; i <= 6; i++) {
            add("trail " + i, x.trail(i));
        }
    }

    private void run() {
        for (int i = 0; i < 4; i++) {
            add("now " + i, x.now(i));
            add("counter " + i, x.counter(i));
        }
        for (int way = 0; way < 2 * x.size(0); way++) {
            add("left " + way, x.left(way));
        }
        add("burnt", x.burnt());
        int steps = Math.min(99, Math.max(0, x.now(1)));
        for (int i = 0; i <= steps + 1; i++) {
            add("path " + i, x.path(i));
        }
    }

    private void allInputs() {
        for (int k = 0; k <= 2; k += 2) {
            add("must " + k, x.must(k));
            add("unburnt " + k, x.unburnt(k));
            add("whole " + k, x.whole(k));
            add("longest " + k, x.longest(k));
            add("longestAt " + k, x.longestAt(k));
            add("seen " + k, x.seen(k));
            add("same " + k, x.same(k));
            for (int end = 1; end <= 3; end++) {
                add("ends " + k + " " + end, x.ends(k, end));
            }
        }
        for (int way = 0; way < 2 * x.size(0); way++) {
            add("most " + way, x.most(2, way));
            add("spare " + way, x.spare(2, way));
        }
        add("wanted", x.wanted());
        add("parted", x.parted(0, 255));
        add("answer", x.answer(1, 1, 0, 0));
    }

    private void least() {
        add("least", x.least(2));
        for (int line = 0; line <= 2; line++) {
            add("leastLine " + line, x.leastLine(2, line));
        }
    }

    private void marks() {
        for (int mark = 0; mark < x.size(4); mark++) {
            x.back(mark);
            for (int i = 0; i < 4; i++) {
                add("now " + i + " of mark " + mark, x.now(i));
                add("counter " + i + " of mark " + mark, x.counter(i));
            }
            add("burnt of mark " + mark, x.burnt());
            add("told of mark " + mark, x.size(1));
            add("steps left of mark " + mark, x.run());
        }
    }

    private void tape() {
        add("program", x.program(x.size(5)));
        add("its fault", x.fault());
        add("its place", x.where());
        add("its lines", x.size(0));
        add("its wants", x.size(3));
    }
}
