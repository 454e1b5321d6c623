import java.util.Arrays;

/** The edges that the document names of the text of a program, of its faults, and of promises 2 to 5. */
public final class TextEdgeTest {
    private static final String[] RESERVED = {
        "program", "line", "want", "do", "up", "down", "set", "give", "then", "end", "to", "if", "by", "else", "is",
        "a", "b", "c", "d",
    };
    private static final String TEN_NAMES = "program xa,xb,xc,xd,xe,xf,xg,xh,xi,xj";
    private static final String WANT = "want 0,0,0,0 is 0;";

    private final Check check = new Check("TextEdgeTest");

    public static void main(String[] args) {
        TextEdgeTest test = new TextEdgeTest();
        test.tapeIsFull();
        test.bytesHighestFirst();
        test.textOfAllBytes();
        test.programsNumber();
        test.tapeStaysOrIsEmpty();
        test.programBeginsAnew();
        test.faultAndWhere();
        test.whereOnlyBehindTheCall();
        test.blanks();
        test.bytesThatBeginNoToken();
        test.bytesBehindAWord();
        test.bytesBehindAWhole();
        test.wordLengths();
        test.wholeLengths();
        test.tokensWithoutBlanks();
        test.tenNames();
        test.reservedNames();
        test.namesThatAreAlmostReserved();
        test.fourActs();
        test.counters();
        test.setBounds();
        test.byBounds();
        test.wantBounds();
        test.sixWants();
        test.cutBehindEachToken();
        test.wrongTokenAtEachPlace();
        test.strangeNames();
        test.toldAgain();
        test.lacks();
        test.firstFromTheLeft();
        test.leastOfOnePlace();
        test.check.end();
    }

    private static String blanks(int n) {
        return " ".repeat(n);
    }

    // ---- promise 2

    private void tapeIsFull() {
        BurntWays x = new BurntWays();
        check.due("an empty TAPE", x.size(5), 0);
        for (int i = 1; i <= 45; i++) {
            check.due("feed() " + i, x.feed(0x20202020, 0x20202020, 0x20202020, 0x20202020, 0x20202020), 20 * i);
        }
        check.due("a full TAPE", x.size(5), 900);
        for (int i = 0; i < 3; i++) {
            check.due("feed() of a full TAPE", x.feed(0x70726f67, 0x72616d20, 0x70202020, 0x20202020, 0x20202020), -1);
            check.due("a full TAPE stays", x.size(5), 900);
        }
        check.due("none has come", x.program(900), -1);
        check.due("none has come: blanks alone", x.fault() * 1000 + x.where(), 1900);
        check.due("feed() of the TAPE that is empty again", x.feed(0, 0, 0, 0, 0), 20);
    }

    private void bytesHighestFirst() {
        BurntWays x = new BurntWays();
        // "prog" "ram " "p,q;" "line" " q t", "hen " "end " and what isn't read.
        check.due("feed()", x.feed(0x70726f67, 0x72616d20, 0x702c713b, 0x6c696e65, 0x20712074), 20);
        check.due("feed()", x.feed(0x68656e20, 0x656e6420, 0x80808080, 0x7fffffff, 0x80000000), 40);
        check.granted(x, "program(27)", x.program(27), 2);
        check.due("q is told", x.size(1) * 10 + Check.led(x, 0), 11);
    }

    /** The last byte of a full TAPE counts. */
    private void textOfAllBytes() {
        String names = "program " + blanks(890);
        check.fine(names + "xy", 1);
        check.fine("program x,y" + blanks(889), 2);
        check.faulty(names + "x,", 1, 900);
        check.faulty(names + "x.", 1, 899);
        check.faulty(blanks(900), 1, 900);
        BurntWays x = new BurntWays();
        Check.feed(x, names + "xy");
        check.refused(x, "program(901)", x.program(901), 2);
        check.granted(x, "program(900)", x.program(900), 1);
    }

    // ---- promise 3

    private void programsNumber() {
        BurntWays x = new BurntWays();
        check.refused(x, "program(1) of an empty TAPE", x.program(1), 2);
        check.refused(x, "program(-1) of an empty TAPE", x.program(-1), 2);
        check.refused(x, "program(0) of an empty TAPE", x.program(0), 4);
        check.due("its FAULT, at 0", x.fault() * 10 + x.where(), 10);
        int[] wrong = {21, -1, 900, 901, Integer.MAX_VALUE, Integer.MIN_VALUE};
        Check.feed(x, "program pqr         ");
        for (int n : wrong) {
            check.refused(x, "program(" + n + ") of 20 bytes", x.program(n), 2);
        }
        check.granted(x, "program(20) of 20 bytes", x.program(20), 1);
        Check.feed(x, "program pqr         ");
        check.granted(x, "program(9): its first NAME is p", x.program(9), 1);
        Check.feed(x, "program p;line p then to p by 123");
        check.granted(x, "program(31): it is by 1", x.program(31), 1);
        check.due("by 1", x.line(0, 4), 1);
        Check.feed(x, "program p;line p then to p by 123");
        check.refused(x, "program(32): it is by 12", x.program(32), 4);
        check.due("out of bounds", x.fault() * 100 + x.where(), 430);
        Check.feed(x, "program pqr         ");
        check.refused(x, "program(8): no NAME", x.program(8), 4);
        check.due("at the end", x.where(), 8);
        Check.feed(x, "program pqr         ");
        check.refused(x, "program(7): no NAME", x.program(7), 4);
        check.due("at the end", x.where(), 7);
        Check.feed(x, "program pqr         ");
        check.refused(x, "program(6): another WORD", x.program(6), 4);
        check.due("at it", x.where(), 0);
    }

    private void tapeStaysOrIsEmpty() {
        BurntWays x = new BurntWays();
        Check.feed(x, "program p,q;line p then to q by 7");
        check.refused(x, "program(41)", x.program(41), 2);
        check.due("THE TAPE stays if it is refused by 2", x.size(5), 40);
        check.granted(x, "program(33)", x.program(33), 2);
        check.due("all of THE TAPE stayed", x.line(0, 4), 7);
        check.due("THE TAPE is empty behind a program", x.size(5), 0);
        check.refused(x, "program(33) once more", x.program(33), 2);
        Check.feed(x, "program p p         ");
        check.refused(x, "program(11)", x.program(11), 4);
        check.due("THE TAPE is empty behind a fault", x.size(5), 0);
        Check.feed(x, "program r           ");
        check.granted(x, "nothing is ahead of what comes then", x.program(20), 1);
    }

    private void programBeginsAnew() {
        BurntWays x = Check.told("program p;line p do up a,up b,up c,up d then to p by 9;want 0,0,0,0 is 0");
        x.start(4, 3, 2, 1);
        x.steps(5);
        x.mark();
        x.mark();
        check.due("two MARKS", x.size(4), 2);
        check.granted(x, "another program", Check.tell(x, "program p;line p then to p by 9"), 1);
        for (int i = 0; i < 4; i++) {
            check.due("counter " + i, x.counter(i), 0);
        }
        check.due("line, STEPS, how it ENDED, WAYS taken", x.now(0) + x.now(1) + x.now(2) + x.now(3), 0);
        check.due("all is LEFT", x.left(0), 9);
        check.due("no MARKS", x.size(4), 0);
        check.refused(x, "back(0)", x.back(0), 1);
        check.due("no wants", x.size(3), 0);
        check.due("no ACTS", x.line(0, 0), 0);
        check.granted(x, "mark() is the first", x.mark(), 0);
    }

    // ---- promises 4 and 5

    private void faultAndWhere() {
        BurntWays x = new BurntWays();
        check.due("fault() ahead", x.fault(), 0);
        check.due("where() ahead", x.where(), -1);
        check.refused(x, "a fault", Check.tell(x, "program p,p"), 4);
        check.due("fault()", x.fault(), 3);
        check.due("where()", x.where(), 10);
        check.refused(x, "another fault", Check.tell(x, "program p;line q"), 4);
        check.due("fault() of the latest", x.fault(), 2);
        check.due("where() of the latest", x.where(), 15);
        check.refused(x, "program(1)", x.program(1), 2);
        check.due("fault() of the latest not refused by 2", x.fault(), 2);
        check.due("where() behind one refused by 2", x.where(), -1);
        check.granted(x, "one without", Check.tell(x, "program p"), 1);
        check.due("fault() without one", x.fault(), 0);
        check.due("where() without one", x.where(), -1);
        check.refused(x, "program(1)", x.program(1), 2);
        check.due("fault() without one, behind 2", x.fault(), 0);
    }

    private void whereOnlyBehindTheCall() {
        BurntWays x = new BurntWays();
        check.refused(x, "a fault", Check.tell(x, "program p,p"), 4);
        x.feed(0, 0, 0, 0, 0);
        x.fault();
        x.size(0);
        x.size(9);
        Check.led(x, 0);
        x.trouble();
        check.due("where() behind calls that can't be refused", x.where(), 10);
        check.due("where() twice", x.where(), 10);
        x.loop(1, 1);
        check.due("where() behind a call that wasn't refused", x.where(), -1);
        check.refused(x, "the fault again", Check.tell(x, "program p,p"), 4);
        check.due("at 0: the bytes that came between", x.where(), 0);
        x.run();
        check.due("where() behind a call refused by 1", x.where(), -1);
        check.due("fault() stays", x.fault(), 1);
    }

    // ---- TOKENS

    private void blanks() {
        check.fine("program x", 1);
        check.fine("   program     x   ;   line   x   then   end   ", 1);
        check.faulty("pro gram x", 1, 0);
        check.faulty("program x y", 1, 10);
        check.faulty("program x;line x then to x by 1 2", 1, 32);
        check.faulty("  program x,  x", 3, 14);
        check.faulty("program x;   ", 1, 13);
        check.faulty("want 0,0,0,0 is 0   ", 6, 20);
    }

    private void bytesThatBeginNoToken() {
        for (int b = 0; b < 256; b++) {
            char sign = (char) b;
            // Ahead of all a blank means nothing, a letter is of a WORD that is another one then.
            String text = sign + "program x";
            if (sign == ' ') {
                check.fine(text, 1);
            } else {
                check.faulty(text, 1, 0);
            }
            // Behind all, parted by a blank.
            text = "program x " + sign;
            if (sign == ' ') {
                check.fine(text, 1);
            } else {
                check.faulty(text, 1, sign == ';' || sign == ',' ? 11 : 10);
            }
        }
    }

    private void bytesBehindAWord() {
        for (int b = 0; b < 256; b++) {
            char sign = (char) b;
            String text = "program x" + sign;
            if (sign == ' ' || sign >= 'a' && sign <= 'z') {
                check.fine(text, 1);
            } else {
                check.faulty(text, 1, sign == ';' || sign == ',' ? 10 : 9);
            }
            text = "program x" + sign + "y";
            if (sign == ' ' || sign == ';') {
                check.faulty(text, 1, 10);
            } else if (sign >= 'a' && sign <= 'z') {
                check.fine(text, 1);
            } else if (sign == ',') {
                check.fine(text, 2);
            } else {
                check.faulty(text, 1, 9);
            }
        }
    }

    private void bytesBehindAWhole() {
        String text = "program x;line x then to x by 0";
        for (int b = 0; b < 256; b++) {
            char sign = (char) b;
            if (sign >= '1' && sign <= '9') {
                BurntWays x = check.fine(text + sign, 1);
                check.due("by 0" + sign, x.line(0, 4), sign - '0');
            } else {
                check.faulty(text + sign, 4, 30);
            }
        }
    }

    private void wordLengths() {
        check.fine("program z", 1);
        check.fine("program zzzzzzzz", 1);
        check.faulty("program zzzzzzzzz", 1, 8);
        check.faulty("program x,abcdefghi", 1, 10);
        check.faulty("programme x", 1, 0);
        check.faulty("program x;line xxxxxxxxx then end", 1, 15);
        check.faulty("program abcdefgh;line abcdefghi then end", 1, 22);
        check.faulty("program " + "z".repeat(100), 1, 8);
        // All 8 letters count, and their order does.
        check.fine("program abcdefgh,abcdefgi,bbcdefgh,abcdefhg", 4);
        check.faulty("program abcdefgh,abcdefg;line abcdef then end", 2, 30);
        check.faulty("program abcdefgh,bcdefgha,abcdefgh", 3, 26);
    }

    private void wholeLengths() {
        String text = "program x;line x then to x by ";
        BurntWays x = check.fine(text + "9", 1);
        check.due("by 9", x.line(0, 4), 9);
        x = check.fine(text + "09", 1);
        check.due("by 09", x.line(0, 4), 9);
        x = check.fine(text + "009", 1);
        check.due("by 009", x.line(0, 4), 9);
        check.faulty(text + "0009", 1, 30);
        check.faulty(text + "999", 4, 30);
        check.faulty(text + "1000", 1, 30);
        check.faulty(text + "99999999999", 1, 30);
        check.faulty(text + "4294967297", 1, 30);
        check.faulty("want 0,0,0,0 is 0000;program x", 1, 16);
        check.fine("want 0,0,0,0 is 000;program x", 1);
    }

    private void tokensWithoutBlanks() {
        BurntWays x = check.fine("want1,2,3,4is5;program x;line x do set a 7,set b 8then if a to x by1else x by2", 1);
        check.due("TO", x.line(0, 4), 1);
        check.due("ELSE", x.line(0, 6), 2);
        check.faulty("program1", 1, 7);
        check.faulty("programx", 1, 0);
        check.faulty("program x;linex then end", 1, 10);
        check.faulty("program x;line x do upa then end", 1, 20);
        check.faulty("program x;line x do set a7", 1, 26);
    }

    // ---- LINES of the text

    private void tenNames() {
        check.fine("program xa", 1);
        check.fine(TEN_NAMES.substring(0, TEN_NAMES.length() - 3), 9);
        BurntWays x = check.fine(TEN_NAMES, 10);
        check.due("lines", x.size(0), 10);
        check.faulty(TEN_NAMES + ",xk", 5, 38);
        check.faulty(TEN_NAMES + ",xk,xa.", 5, 38);
        check.faulty(TEN_NAMES + ",", 1, 38);
        x = check.fine(TEN_NAMES + ";line xj then to xa by 1", 10);
        check.due("the tenth is told", Check.led(x, 0), 9);
        check.due("a RUN begins with the first, which isn't told", x.now(0) * 10 + x.now(2), 3);
    }

    private void reservedNames() {
        for (String word : RESERVED) {
            check.faulty("program " + word, 1, 8);
            check.faulty("program x," + word, 1, 10);
            check.faulty("program x;line " + word + " then end", 1, 15);
            check.faulty("program x;line x do give " + word, 1, 25);
            check.faulty("program x;line x then to " + word, 1, 25);
            check.faulty("program x;line x then if a to " + word, 1, 30);
            check.faulty("program x;line x then if a to x by 1 else " + word, 1, 42);
        }
    }

    private void namesThatAreAlmostReserved() {
        for (String word : RESERVED) {
            check.fine("program " + word + "x,x" + word.substring(0, Math.min(7, word.length())), 2);
            if (word.length() > 2) {
                check.fine("program " + word.substring(0, word.length() - 1) + "," + word.substring(1), 2);
            }
        }
        check.fine("program e,z,aa,dd,i,s,t", 7);
    }

    private void fourActs() {
        String text = "program x;line x do up a,up a,up a";
        BurntWays x = check.fine("program x;line x then end", 1);
        check.due("no ACTS", x.line(0, 0), 0);
        x = check.fine("program x;line x do up a then end", 1);
        check.due("one ACT", x.line(0, 0), 1);
        x = check.fine(text + ",give x then end", 1);
        check.due("four ACTS", x.line(0, 0), 4);
        String[] fifth = {"up a then end", "down a", "set a 1", "give x", "up", "set a 99", "give zz"};
        for (String act : fifth) {
            check.faulty(text + ",up a," + act, 5, 40);
        }
        check.faulty(text + ",up a,", 1, 40);
        check.faulty(text + ",up a,then end", 1, 40);
        check.faulty(text + ",up a,xx", 1, 40);
        // Each line has four of its own.
        x = check.fine("program x,y;line x do up a,up a,up a,up a then to y by 1;line y do up a,up a,up a,up a then end", 2);
        x.run();
        check.due("eight ACTS", x.counter(0), 8);
    }

    private void counters() {
        String names = "abcd";
        for (int i = 0; i < 4; i++) {
            char c = names.charAt(i);
            BurntWays x = check.fine("program x,y;line x do up " + c + ",up " + c + ",down " + c + " then if " + c
                    + " to y by 1 else x by 1;line y do set " + c + " 5 then end", 2);
            check.due("if " + c, x.line(0, 2), i);
            x.steps(1);
            check.due("up, up, down " + c, x.counter(i), 1);
            x.steps(1);
            check.due("set " + c, x.counter(i), 5);
            check.due("no other one", x.counter(0) + x.counter(1) + x.counter(2) + x.counter(3), 5);
        }
        String[] wrong = {"e", "z", "x", "aa", "ab", "0", "1", ";", ",", "", "to"};
        for (String w : wrong) {
            check.faulty("program x;line x do up " + w, 1, 23);
            check.faulty("program x;line x do down " + w, 1, 25);
            check.faulty("program x;line x do set " + w, 1, 24);
            check.faulty("program x;line x then if " + w, 1, 25);
        }
    }

    private void setBounds() {
        for (int n = 0; n <= 9; n++) {
            BurntWays x = check.fine("program x;line x do set d " + n + " then end", 1);
            x.start(0, 0, 0, 99);
            x.run();
            check.due("set d " + n, x.counter(3), n);
        }
        check.faulty("program x;line x do set d 10 then end", 4, 26);
        check.faulty("program x;line x do set d 010 then end", 4, 26);
        check.faulty("program x;line x do set d 999", 4, 26);
        check.faulty("program x;line x do set d -1", 1, 26);
    }

    private void byBounds() {
        String to = "program x;line x then to x by ";
        String ifTo = "program x;line x then if a to x by ";
        String ifElse = "program x;line x then if a to x by 1 else x by ";
        for (int n = 1; n <= 9; n++) {
            check.due("to by " + n, check.fine(to + n, 1).line(0, 4), n);
            check.due("if to by " + n, check.fine(ifTo + n + " else x by 1", 1).line(0, 4), n);
            check.due("else by " + n, check.fine(ifElse + n, 1).line(0, 6), n);
        }
        String[] wrong = {"0", "00", "000", "10", "010", "11", "99", "100", "256", "999"};
        for (String w : wrong) {
            check.faulty(to + w, 4, 30);
            check.faulty(ifTo + w, 4, 35);
            check.faulty(ifElse + w, 4, 47);
        }
    }

    private void wantBounds() {
        for (int i = 0; i < 4; i++) {
            for (int n = 0; n <= 10; n++) {
                StringBuilder s = new StringBuilder("want ");
                for (int j = 0; j < 4; j++) {
                    s.append(j > 0 ? "," : "").append(j == i ? n : 0);
                }
                String text = s + " is 0;program x";
                if (n <= 9) {
                    check.due(text, check.fine(text, 1).size(3), 1);
                } else {
                    check.faulty(text, 4, 5 + 2 * i);
                }
            }
        }
        int[] good = {0, 1, 9, 10, 98, 99};
        for (int n : good) {
            check.fine("want 0,0,0,0 is " + n + ";program x", 1);
        }
        int[] wrong = {100, 101, 256, 999};
        for (int n : wrong) {
            check.faulty("want 0,0,0,0 is " + n + ";program x", 4, 16);
        }
    }

    private void sixWants() {
        for (int n = 0; n <= 6; n++) {
            check.due(n + " wants", check.fine(WANT.repeat(n) + "program x", 1).size(3), n);
        }
        check.faulty(WANT.repeat(6) + "want", 5, 108);
        check.faulty(WANT.repeat(7) + "program x", 5, 108);
        check.faulty("program x;" + WANT.repeat(6) + "want 10", 5, 118);
        check.faulty("program x;" + WANT.repeat(6), 1, 118);
        BurntWays x = check.fine("want 0,0,0,0 is 0;program x;want 0,0,0,0 is 0;line x then end;want 0,0,0,0 is 0", 1);
        check.due("wants at any place", x.size(3) * 10 + x.wanted(), 37);
    }

    // ---- FORM

    /** Behind these many TOKENS a PROGRAM may be over; behind all others the end is a FORM fault at its place. */
    private void cutBehindEachToken() {
        String[] tokens = ("program p , q ; line p do up a , down b , set c 3 , give q then if d to q by 4 else p by 5 ; "
                + "line q then to p by 6 ; want 1 , 2 , 3 , 4 is 50 ; want 0 , 0 , 0 , 0 is 0").split(" ");
        int[] lastOnes = {2, 4, 31, 39, 50, 61};
        StringBuilder s = new StringBuilder();
        int found = 0;
        for (int n = 1; n <= tokens.length; n++) {
            s.append(n > 1 ? " " : "").append(tokens[n - 1]);
            String text = s.toString();
            if (found < lastOnes.length && n == lastOnes[found]) {
                found++;
                check.fine(text, n == 2 ? 1 : 2);
            } else {
                check.faulty(text, 1, text.length());
                check.faulty(text + "  ", 1, text.length() + 2);
                check.faulty(text + " .", 1, text.length() + 1);
            }
        }
        check.due("all ends", found, lastOnes.length);
    }

    /** One TOKEN of each kind in the place of each one: what may stand there is told by the row of kinds. */
    private void wrongTokenAtEachPlace() {
        String[] tokens = ("program p , q ; line p do up a , set c 3 , give q then if d to q by 4 else p by 5 ; "
                + "line q then to p by 6 ; want 1 , 2 , 3 , 4 is 50").split(" ");
        String[] strange = {"A", ".", "-", "abcdefghi", "1234"};
        String[] others = {"end", "is", "7", "zzz", ";", ",", "b"};
        for (int at = 0; at < tokens.length; at++) {
            int place = String.join(" ", Arrays.copyOf(tokens, at)).length() + (at > 0 ? 1 : 0);
            for (String token : strange) {
                check.faulty(with(tokens, at, token), 1, place);
            }
            for (String token : others) {
                if (!mayStandFor(tokens, at, token)) {
                    check.faulty(with(tokens, at, token), 1, place);
                }
            }
        }
    }

    private static String with(String[] tokens, int at, String token) {
        String[] changed = tokens.clone();
        changed[at] = token;
        return String.join(" ", changed);
    }

    private static boolean mayStandFor(String[] tokens, int at, String token) {
        String old = tokens[at];
        boolean isName = "pq".contains(old);
        boolean isCounter = old.length() == 1 && "abcd".contains(old);
        boolean isWhole = Character.isDigit(old.charAt(0));
        boolean endsLineOfNames = at == 2 || at == 4;
        boolean isBehindAnAct = at == 17;
        boolean beginsAGoal = at == 18 || old.equals("to") && tokens[at - 1].equals("then");
        return old.equals(token)
                || isName && token.equals("zzz")
                || isCounter && token.equals("b")
                || isWhole && token.equals("7")
                || beginsAGoal && token.equals("end")
                || isBehindAnAct && token.equals(",")
                || old.equals(",") && endsLineOfNames && token.equals(";")
                || old.equals(";") && endsLineOfNames && token.equals(",");
    }

    // ---- FAULTS 2, 3, 6

    private void strangeNames() {
        check.faulty("program x;line y then end", 2, 15);
        check.faulty("program x;line x do give y then end", 2, 25);
        check.faulty("program x;line x then to y by 1", 2, 25);
        check.faulty("program x;line x then if a to y by 1 else x by 1", 2, 30);
        check.faulty("program x;line x then if a to x by 1 else y by 1", 2, 42);
        check.faulty("program x;line xx then end", 2, 15);
        check.faulty("program xx;line x then end", 2, 16);
        check.faulty(TEN_NAMES + ";line xk then end", 2, 43);
        // The names of a program ahead aren't told by this one.
        BurntWays x = Check.told("program old,older");
        check.refused(x, "old names", Check.tell(x, "program x;line older then end"), 4);
        check.due("old names: fault()", x.fault(), 2);
        check.due("old names: where()", x.where(), 15);
    }

    private void toldAgain() {
        check.faulty("program x,x", 3, 10);
        check.faulty("program x,y,y", 3, 12);
        check.faulty("program xj,xa,xb,xc,xd,xe,xf,xg,xh,xj", 3, 35);
        check.faulty("program x;line x then end;line x then end", 3, 31);
        check.faulty("program x,y;line y then end;line x then end;line y", 3, 49);
        check.faulty("program x;program y", 3, 10);
        check.faulty("program x;line x then end;program", 3, 26);
        check.faulty("program x;want 0,0,0,0 is 0;program x", 3, 28);
        // A line may be told again by another program.
        BurntWays x = Check.told("program x;line x then end");
        check.granted(x, "the same program", Check.tell(x, "program x;line x then end"), 1);
    }

    private void lacks() {
        check.faulty("line x then end;program x", 6, 0);
        check.faulty("  line", 6, 2);
        check.faulty("want 0,0,0,0 is 0;line x then end;program x", 6, 18);
        check.faulty("want 0,0,0,0 is 0", 6, 17);
        check.faulty("want 0,0,0,0 is 0;want 9,9,9,9 is 99 ", 6, 37);
        check.fine("want 0,0,0,0 is 0;program x;line x then end", 1);
        // The program of the text ahead is none of this text.
        BurntWays x = Check.told("program x");
        check.refused(x, "a line alone", Check.tell(x, "line x then end"), 4);
        check.due("a line alone: fault()", x.fault(), 6);
        check.refused(x, "a want alone", Check.tell(x, "want 0,0,0,0 is 0"), 4);
        check.due("a want alone: fault()", x.fault(), 6);
    }

    private void firstFromTheLeft() {
        check.faulty("line . ", 6, 0);
        check.faulty("program x,x.", 3, 10);
        check.faulty("program x;line y.", 2, 15);
        check.faulty("program x;line x then to x by 10.", 4, 30);
        check.faulty("program x.;line y", 1, 9);
        check.faulty("program x;program x,x", 3, 10);
        check.faulty("program x;line x do set a 10,give y", 4, 26);
        check.faulty("program x;line x do give y,set a 10", 2, 25);
        check.faulty("want 10,0,0,0 is 0", 4, 5);
        check.faulty("want 0,0,0,0 is 100", 4, 16);
        check.faulty(WANT.repeat(6) + "want.", 5, 108);
    }

    private void leastOfOnePlace() {
        check.faulty("", 1, 0);
        check.faulty("    ", 1, 4);
        check.faulty("want 0,0,0,0 is", 1, 15);
        check.faulty(TEN_NAMES + ",xa", 3, 38);
        check.faulty(TEN_NAMES + ",a", 1, 38);
        check.faulty(TEN_NAMES + ",abcdefghi", 1, 38);
    }
}
