/** The example of README.md: a program is told, run, asked about, folded, and gone back from. */
public final class Example {
    private static final String TEXT = "program top,add,out,dup;"
            + "line top then if b to add by 3 else out by 1;"
            + "line add do up a,down b then to top by 3;"
            + "line out then end;"
            + "line dup do up a,down b then to top by 2;"
            + "want 1,2,0,0 is 3;want 2,0,0,0 is 2";

    public static void main(String[] args) {
        BurntWays x = new BurntWays();
        show("lines", tell(x, TEXT));

        x.start(1, 2, 0, 0);
        show("steps", x.run());
        show("counter a", x.counter(0));
        show("ended by", x.now(2));
        show("left of top's way to add", x.left(0));
        show("burnt ways, as bits", x.burnt());

        show("ways that all inputs to 1 take", x.must(1));
        show("longest run of inputs to 3", x.longest(3));
        show("wants answered, as bits", x.wanted());

        int mark = x.mark();
        show("lines folded away", x.fold(3));
        show("lines told", x.size(1));
        x.back(mark);
        show("lines told, gone back", x.size(1));
        show("lines of the least program", x.least(2));

        show("b of 4 burns too much", x.answer(1, 4, 0, 0));
        show("trouble", x.trouble());
        show("a faulty text", tell(x, "program x,x"));
        show("fault", x.fault());
        show("where", x.where());
    }

    /** Puts a text on THE TAPE, twenty bytes a call, with blanks behind it, and takes it as the program. */
    private static int tell(BurntWays x, String text) {
        for (int from = 0; from < text.length(); from += 20) {
            x.feed(four(text, from), four(text, from + 4), four(text, from + 8), four(text, from + 12),
                    four(text, from + 16));
        }
        return x.program(text.length());
    }

    private static int four(String text, int from) {
        int number = 0;
        for (int at = from; at < from + 4; at++) {
            number = number << 8 | (at < text.length() ? text.charAt(at) : ' ');
        }
        return number;
    }

    private static void show(String what, int answer) {
        System.out.println(what + ": " + answer);
    }
}
