/** The boundary cases of THE TEXT in the section "Terms", a method for each sentence: see TermsEdgeTest. */
public final class TextEdgeTest extends Held {
    public static void main(String[] args) {
        about("THE TEXT (120 bytes at most)"); textLength();
        about("ORDERS, each ended by ;"); orderEnds();
        about("b and eight numbers, e k x y, l, r b, c a b"); howManyNumbers();
        about("Numbers have 1 to 5 figures"); figures();
        about("blanks may stand anywhere but within a number"); blanks();
        about("THE TEXT is read whole first"); readWholeFirst();
        about("an ORDER that its call would refuse ends all"); orderEndsAll();
        about("FAULT: the place of the first byte that can not stand there"); faultPlaces(); strangeBytes();
        about("the TEXT's length, if it ends too early"); endsTooEarly();
        end("the edges of THE TEXT hold");
    }

    private static void textLength() {
        PortBench x = new PortBench();
        typed(x, "l;".repeat(59) + " l");
        due("119 bytes and one", x.count(5), 120);
        refused("a byte behind 120", x, FULL, () -> x.type(';'));
        due("the 120 stay as they were", x.does(), -130);
        typed(x, "l;".repeat(59) + "l");
        due("byte 120", x.type(';'), 120);
        due("does 120 bytes", x.does(), 60);
        refused("a byte behind 120", x, FULL, () -> x.type('l'));
        due("does 120 bytes again", x.does(), 60);
    }

    private static void orderEnds() {
        String[] orders = {"b0 0 1 0 1 0 0 0", "e0 1 1", "l", "r0", "c0 0"};
        for (String order : orders) {
            PortBench x = benchWith(1);
            x.learns();
            due("without ;", done(x, order), -10 - order.length());
            due("with ;", done(x, order + ";"), 1);
            due("with ; ;", done(x, order + ";;"), -10 - order.length() - 1);
            due("two of them, the second without ;", done(x, order + ";" + order), -11 - 2 * order.length());
            due("two of them", done(x, order + ";" + order + ";"), 2);
        }
        PortBench y = new PortBench();
        due("; alone", done(y, ";"), -10);
        due(": for ;", done(y, "l:"), -11);
    }

    private static void howManyNumbers() {
        char[] letters = {'b', 'e', 'l', 'r', 'c'};
        int[] wanted = {8, 3, 0, 1, 2};
        for (int i = 0; i < letters.length; i++) {
            for (int numbers = 0; numbers <= 9; numbers++) {
                PortBench x = benchWith(1);
                x.learns();
                String order = letters[i] + " 0".repeat(numbers);
                // One too few: the ; can not stand there. One too many: its first figure can not.
                int fault = numbers < wanted[i] ? order.length() : 2 * wanted[i] + 2;
                due(order + ";", done(x, order + ";"), numbers == wanted[i] ? 1 : -10 - fault);
            }
        }
        for (int c = 0; c < 128; c++) {
            if ("belrc ".indexOf(c) < 0) {
                due("byte " + c + " as an ORDER", done(new PortBench(), (char) c + ";"), -10);
            }
        }
    }

    private static void figures() {
        PortBench x = benchWith(1);
        x.learns();
        due("no figure", done(x, "r;"), -11);
        due("one figure", done(x, "r0;"), 1);
        due("five figures", done(x, "r00001;"), 1);
        due("a sixth figure", done(x, "r000001;"), -16);
        due("a sixth figure, text ended", done(x, "r000001"), -16);
        due("a seventh figure", done(x, "r0000001;"), -16);
        due("five figures, text ended", done(x, "r00001"), -16);
        due("boxes", x.count(0), 3);
        due("five figures each", done(x, "e00011 10006 00009;"), 1);
        due("error 11", x.error(11), n(TOP, 9));
        due("a sixth figure of the second", done(x, "e00011 010006 9;"), -22);
        due("a sixth figure of the last", done(x, "e00011 10006 000009;"), -28);
        due("a sixth figure of c", done(x, "c0 000000;"), -18);
        due("a sixth figure of b", done(x, "b000000 0 0 0 0 0 0 0;"), -16);
        due("99999 has five", done(x, "r99999;"), -1000);
        due("100000 has six", done(x, "r100000;"), -16);
        for (int c = 0; c < 128; c++) {
            boolean figure = c >= '0' && c <= '9';
            if (c != ' ' && c != ';' && !figure) {
                due("byte " + c + " for a figure", done(new PortBench(), "r" + (char) c + ";"), -11);
                due("byte " + c + " behind a figure", done(new PortBench(), "r0" + (char) c), -12);
            }
        }
        for (int digit = 0; digit < 10; digit++) {
            PortBench y = new PortBench();
            due("figure " + digit, done(y, "e0 " + digit + " 1" + digit + ";"), 1);
            due("figure " + digit, y.error(0), n(digit, 10 + digit));
        }
    }

    private static void blanks() {
        PortBench x = benchWith(1);
        x.learns();
        due("none where none is needed", done(x, "c0 0;l;r0;e1 2 3;"), 4);
        due("everywhere", done(x, "  c  0  0  ;  l  ;  e  1  2  3  ;  "), 3);
        due("ahead of all", done(x, " l;"), 1);
        due("behind all", done(x, "l; "), 1);
        due("ahead of ;", done(x, "l ;"), 1);
        due("within a number they make two of it", done(x, "r0 0;"), -13);
        due("none between two numbers makes one of them", done(x, "c00;"), -13);
        due("within what would be six figures", done(x, "c000 001;"), 1);
        due("a blank is 32 alone", done(x, "l" + (char) 9 + ";"), -11);
        due("a blank is 32 alone", done(x, "l" + (char) 31 + ";"), -11);
        due("a blank is 32 alone", done(x, "l" + (char) 33 + ";"), -11);
        due("118 blanks", done(new PortBench(), " ".repeat(118) + "l;"), 1);
        due("118 blanks", done(new PortBench(), "l" + " ".repeat(118) + ";"), 1);
        due("118 blanks", done(new PortBench(), "l;" + " ".repeat(118)), 1);
    }

    private static void readWholeFirst() {
        PortBench x = new PortBench();
        x.errs(0, 1, 1);
        typed(x, "b0 0 1 0 1 0 0 0;e0 2 2;l;r0;c0 0;x");
        kept("a FAULT behind good ORDERS", x, x::does, -10 - 34);
        typed(x, "r0;l;x");
        kept("a FAULT behind an ORDER that would be refused", x, x::does, -15);
        typed(x, "e0 2 2;l");
        kept("a text that ends too early behind a good ORDER", x, x::does, -18);
        due("error", x.error(0), n(1, 1));
        due("back", x.back(), 0);
    }

    private static void orderEndsAll() {
        String good = "e0 2 2;";
        String[] bad = {"r1;", "c0 1;", "c1 0;", "e12 0 0;", "e0 10007 0;", "e0 0 10007;", "b0 0 0 0 0 0 0 10007;",
            "e2 0 0;l;", "c0 0;c0 0;c0 0;c0 0;c0 0;c0 0;c0 0;c0 0;"};
        int[] at = {0, 0, 0, 0, 0, 0, 0, 1, 7};
        for (int i = 0; i < bad.length; i++) {
            PortBench x = benchWith(1);
            typed(x, bad[i]);
            kept(bad[i], x, x::does, -1000 - at[i]);
            typed(x, good + bad[i] + good);
            kept(good + bad[i] + good, x, x::does, -1001 - at[i]);
            due("error", x.error(0), 0);
            due("back", x.back(), 0);
            due("boxes", x.count(0), 0);
        }
        // ORDERS see what those ahead of them did.
        PortBench y = new PortBench();
        due("r0 ahead of its box", done(y, "l;r0;b0 0 1 0 1 0 0 0;"), -1001);
        due("r0 behind its box", done(y, "l;b0 0 1 0 1 0 0 0;r0;"), 3);
        PortBench z = benchWith(1);
        due("r0 ahead of l", done(z, "r0;l;"), -1000);
        due("r0 behind l", done(z, "l;r0;"), 2);
    }

    private static void faultPlaces() {
        PortBench x = new PortBench();
        due("at the first byte", done(x, "x"), -10);
        due("at the second byte", done(x, "lx"), -11);
        due("the first of two", done(x, "l;xx"), -12);
        due("at the last byte", done(x, "l;".repeat(59) + "lx"), -129);
        due("at the last byte", done(x, " ".repeat(119) + "x"), -129);
        due("at the last byte but one", done(x, "l;".repeat(59) + "x;"), -128);
        PortBench y = benchWith(1);
        typed(y, "l;x");
        kept("nothing is done", y, y::does, -12);
        due("nothing is learnt", y.count(1), 0);
    }

    private static void strangeBytes() {
        for (int c : new int[] {0, 1, 10, 31, 33, 47, 58, 60, 'B', 'L', 'a', 'd', 'f', 'k', 'm', 'q', 's', 127}) {
            due("byte " + c + " ahead of all", done(new PortBench(), (char) c + "l;"), -10);
            due("byte " + c + " behind all", done(new PortBench(), "l;" + (char) c), -12);
            due("byte " + c + " in a number", done(new PortBench(), "e0 0" + (char) c + "0 0;"), -14);
        }
    }

    private static void endsTooEarly() {
        String whole = "b 1 2 3 4 5 6 7 88 ;e1 2 3;c0 0;l;r0;";
        for (int length = 0; length < whole.length(); length++) {
            if (length > 0 && whole.charAt(length - 1) == ';') {
                continue;
            }
            PortBench x = new PortBench();
            typed(x, whole.substring(0, length));
            kept("the first " + length + " bytes", x, x::does, -10 - length);
        }
        due("all bytes", done(new PortBench(), whole), 5);
        due("empty", new PortBench().does(), -10);
        due("one blank", done(new PortBench(), " "), -11);
        due("119 blanks", done(new PortBench(), " ".repeat(119)), -129);
        due("120 blanks", done(new PortBench(), " ".repeat(120)), -130);
        due("120 bytes, ended too early", done(new PortBench(), "l;".repeat(59) + " l"), -130);
        PortBench y = new PortBench();
        done(y, "l;");
        y.clear();
        due("empty again", y.does(), -10);
    }
}
