import java.util.function.IntSupplier;

/** What the tests share: they extend it, say which sentence they are about, and hold answers against what is due. */
abstract class Held {
    static final int NONE = -1, BAD = -2, NO = -3, FULL = -4;
    static final int TOP = 10006;
    static final int THROUGH = 10007;
    /** The two values just beyond 0 .. 10006, and the two that are farthest off. */
    static final int[] WRONG_PARTS = {-1, 10007, Integer.MIN_VALUE, Integer.MAX_VALUE};

    private static int wrong = 0;
    private static String sentence = "";

    // ---- how answers are looked at

    static void about(String told) {
        sentence = told;
    }

    static void due(String what, long got, long want) {
        if (got != want) {
            wrong++;
            System.out.println("[" + sentence + "] " + what + " answered " + got + ", due is " + want);
        }
    }

    /** The last line of a test's main method. */
    static void end(String allIsWell) {
        System.out.println(wrong == 0 ? allIsWell : wrong + " answers are not as due");
        if (wrong != 0) {
            System.exit(1);
        }
    }

    /** A refused call answers its kind, and the digest becomes other by that kind's count alone. */
    static void refused(String what, PortBench x, int kind, IntSupplier call) {
        int values = valuesOf(x);
        long before = x.digest();
        due(what, call.getAsInt(), kind);
        due(what + ", what else became other", x.digest() - before - power(values - 1 + kind), 0);
    }

    /** A call that answers and changes nothing at all. */
    static void kept(String what, PortBench x, IntSupplier call, long want) {
        long before = x.digest();
        due(what, call.getAsInt(), want);
        due(what + ", what became other", x.digest() - before, 0);
    }

    /** A call told S: it leaves just one STATE, and that brings all back. */
    static void leaves(String what, PortBench x, IntSupplier call, long want) {
        int states = x.count(6);
        int boxes = x.count(0);
        long before = contentOf(x);
        due(what, call.getAsInt(), want);
        due(what + ", states", x.count(6), Math.min(states + 1, 5));
        due(what + ", back", x.back(), Math.min(states, 4));
        due(what + ", boxes gone back", x.count(0), boxes);
        due(what + ", what is other gone back", contentOf(x) - before, 0);
    }

    /** BOXES, ERRORS and what is LEARNT as one number: the digest without its counts. */
    static long contentOf(PortBench x) {
        long counts = 2693;
        for (int what = 0; what < 7; what++) {
            counts = 31 * counts + x.count(what);
        }
        return x.digest() - counts * power(valuesOf(x) - 7);
    }

    private static int valuesOf(PortBench x) {
        return 7 + 10 * x.count(0) + 24;
    }

    private static long power(int times) {
        long all = 1;
        for (int i = 0; i < times; i++) {
            all *= 31;
        }
        return all;
    }

    static void refusals(String what, PortBench x, int bad, int no, int full) {
        due(what + ", BAD", x.count(2), bad);
        due(what + ", NO", x.count(3), no);
        due(what + ", FULL", x.count(4), full);
    }

    static void boxIs(String what, PortBench x, int b, int s11, int s12, int s21, int s22) {
        due(what + " s11", x.of(b, 0), s11);
        due(what + " s12", x.of(b, 1), s12);
        due(what + " s21", x.of(b, 2), s21);
        due(what + " s22", x.of(b, 3), s22);
    }

    // ---- what is looked at

    static int n(int x, int y) {
        return 10007 * x + y;
    }

    /** w with w * z = 1, by search. */
    static int inverse(int z) {
        for (int w = 1; w < 10007; w++) {
            if (w * z % 10007 == 1) {
                return w;
            }
        }
        return 0;
    }

    /** A bench with a BOX for every eight parts. */
    static PortBench benchOf(int... parts) {
        PortBench x = new PortBench();
        for (int b = 0; b < parts.length / 8; b++) {
            x.box();
            for (int k = 0; k < 4; k++) {
                x.sets(b, k, parts[8 * b + 2 * k], parts[8 * b + 2 * k + 1]);
            }
        }
        return x;
    }

    static PortBench benchWith(int throughs) {
        PortBench x = new PortBench();
        for (int b = 0; b < throughs; b++) {
            x.box();
        }
        return x;
    }

    static void typed(PortBench x, String text) {
        x.clear();
        for (int i = 0; i < text.length(); i++) {
            x.type(text.charAt(i));
        }
    }

    /** Types the text and has it done. */
    static int done(PortBench x, String text) {
        typed(x, text);
        return x.does();
    }
}
