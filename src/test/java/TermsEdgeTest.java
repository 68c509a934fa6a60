import java.util.Arrays;

/**
 * The boundary cases of the section "Terms", a method for each sentence that names one: at the last value that is
 * taken and at the first one that is not. What about() is given are the document's own words. THE TEXT has a test
 * of its own, TextEdgeTest; STATES and refusals have StatesEdgeTest.
 */
public final class TermsEdgeTest extends Held {
    public static void main(String[] args) {
        about("x and y 0 .. 10006"); partsGiven(); partsInTheText();
        about("reckoned by what is left over by 10007: plus"); plusGoesRound();
        about("reckoned by what is left over by 10007: less"); lessGoesRound();
        about("reckoned by what is left over by 10007: times"); timesGoesRound();
        about("just one NUMBER w with w * z = 1 for each z but 0"); inverses();
        about("w / 0 is not to be had"); overNothing();
        about("The OTHER of x + y i: x - y i"); others();
        about("told as 10007 * x + y, 0 .. 100140048"); leastAndGreatest();
        about("BOXES 0 on, as they come"); boxNumbers();
        about("never more than 8"); neverMoreThanEight(); neverMoreThanEightByText();
        about("at first e2, e5, e8, e11 are 1, all others 0"); errorsAtFirst();
        about("LEARNT errors (none at first)"); learntAtFirst();
        about("Where d is 0 nothing is TOLD"); nothingToldByD();
        about("Where f is 0 nothing is TOLD"); nothingToldByF();
        about("LEARNING can not be, if something is not TOLD"); notToldForLearning();
        about("LEARNING can not be, if a step divides by 0"); learningDividesByNothing();
        about("READING: a step would divide by 0"); readingDividesByNothing();
        about("TRANSFER FORM (s21 is not 0)"); transferForm();
        about("Back (t3 is not 0)"); backFromTransfer();
        about("INVERSE, with n not 0"); inverseForPeeling();
        about("FORM 2, with n not 0"); secondForm();
        about("FORM 3: the INVERSE of FORM 2"); thirdForm();
        end("the edges of NUMBERS, BOXES, what is TOLD and FORMS hold");
    }

    // ---- NUMBERS

    private interface Given {
        int go(PortBench x, int part);
    }

    private static void partsGiven() {
        Given[] calls = {(x, p) -> x.sets(0, 0, p, 1), (x, p) -> x.sets(0, 0, 1, p), (x, p) -> x.errs(0, p, 1),
            (x, p) -> x.errs(0, 1, p), (x, p) -> x.ends(0, 0, p, 1), (x, p) -> x.ends(0, 1, 1, p)};
        for (int i = 0; i < calls.length; i++) {
            Given call = calls[i];
            // ends sees s11 (s22) alone, since the box lets nothing through.
            PortBench x = benchOf(0, 0, 0, 0, 0, 0, 0, 0);
            due("call " + i + " takes 0", call.go(x, 0), 0);
            due("call " + i + " takes 10006", call.go(x, TOP) < 0 ? 1 : 0, 0);
            refusals("call " + i + ", nothing refused yet", x, 0, 0, 0);
            for (int w : WRONG_PARTS) {
                refused("call " + i + " given " + w, x, BAD, () -> call.go(x, w));
            }
            refused("call " + i + " given 2 * 10007", x, BAD, () -> call.go(x, 2 * 10007));
        }
        PortBench y = benchOf(0, 0, TOP, 0, 0, TOP, 0, TOP);
        boxIs("parts 0 and 10006", y, 0, 0, n(TOP, 0), n(0, TOP), n(0, TOP));
    }

    private static void partsInTheText() {
        for (int at = 0; at < 8; at++) {
            PortBench x = new PortBench();
            due("b, 10006 at " + at, done(x, boxOrder(at, 10006)), 1);
            int due = at % 2 == 0 ? n(TOP, 0) : n(0, TOP);
            due("b, what 10006 at " + at + " became", x.of(0, at / 2), due);
            due("b, 10007 at " + at, done(x, boxOrder(at, 10007)), -1000);
            due("b, 99999 at " + at, done(x, boxOrder(at, 99999)), -1000);
            due("boxes", x.count(0), 1);
        }
        PortBench y = new PortBench();
        due("e x 10006", done(y, "e0 10006 0;"), 1);
        due("e x 10006", y.error(0), n(TOP, 0));
        due("e y 10006", done(y, "e0 0 10006;"), 1);
        due("e y 10006", y.error(0), TOP);
        due("e x 10007", done(y, "e0 10007 0;"), -1000);
        due("e y 10007", done(y, "e0 0 10007;"), -1000);
        due("e stays", y.error(0), TOP);
    }

    private static String boxOrder(int at, int part) {
        StringBuilder order = new StringBuilder("b");
        for (int i = 0; i < 8; i++) {
            order.append(' ').append(i == at ? part : 0);
        }
        return order.append(';').toString();
    }

    /** With all else as at first, m11 is e0 + s11. */
    private static void plusGoesRound() {
        int[][] sums = {{TOP, 0, TOP}, {TOP, 1, 0}, {TOP, 2, 1}, {TOP, TOP, 10005}, {5003, 5003, TOP}, {5003, 5004, 0},
            {0, 0, 0}};
        for (int[] s : sums) {
            PortBench x = benchOf(s[0], s[1], 0, 0, 0, 0, 0, 0);
            x.errs(0, s[1], s[0]);
            due(s[0] + " + " + s[1], x.told(0, 0), n(s[2], s[2]));
        }
    }

    /** With s11 = 0 and s21 = 1, det is 0 - s12, and number 2 of FORM 1 is 0 - s22. */
    private static void lessGoesRound() {
        int[][] less = {{0, 0}, {1, TOP}, {TOP, 1}, {5003, 5004}, {5004, 5003}};
        for (int[] s : less) {
            PortBench x = benchOf(0, 0, s[0], s[1], 1, 0, s[1], s[0]);
            due("0 - (" + s[0] + ", " + s[1] + ")", x.det(0), n(s[1], s[0]));
            due("0 - (" + s[1] + ", " + s[0] + ")", x.form(0, 1, 2), n(s[0], s[1]));
        }
    }

    /** With s12 = 0, det is s11 * s22. */
    private static void timesGoesRound() {
        int[][] products = {{0, 1, 0, 1, TOP, 0}, {0, TOP, 0, 1, 1, 0}, {TOP, 0, TOP, 0, 1, 0},
            {TOP, TOP, TOP, TOP, 0, 2},
            {TOP, TOP, TOP, 1, 2, 0}, {TOP, 1, 1, TOP, 0, 2}, {100, 0, 100, 0, 10000, 0}, {2, 0, 5003, 0, TOP, 0},
            {2, 0, 5004, 0, 1, 0}, {0, 100, 101, 0, 0, 93}, {1, 0, TOP, TOP, TOP, TOP}, {0, 0, TOP, TOP, 0, 0},
            {5003, 5004, 5004, 5003, 0, 5004}};
        for (int[] p : products) {
            PortBench x = benchOf(p[0], p[1], 0, 0, 1, 0, p[2], p[3]);
            due("(" + p[0] + ", " + p[1] + ") * (" + p[2] + ", " + p[3] + ")", x.det(0), n(p[4], p[5]));
        }
    }

    /** Number 3 of FORM 1 is 1 / s21. */
    private static void inverses() {
        PortBench x = null;
        for (int i = 0; i < TOP; i++) {
            if (i % 60 == 0) {
                x = benchOf(0, 0, 1, 0, 1, 0, 0, 0);
            }
            int part = i + 1;
            inverseIs(x, part, 0);
            inverseIs(x, 0, part);
            inverseIs(x, part, (int) (4001L * part % 10007));
        }
        PortBench y = benchOf(0, 0, 1, 0, 1, 0, 0, 0);
        inverseIs(y, TOP, TOP);
        inverseIs(y, TOP, 1);
        inverseIs(y, 1, TOP);
        y.sets(0, 2, 1, 0);
        due("1 / 1", y.form(0, 1, 3), n(1, 0));
        y.sets(0, 2, TOP, 0);
        due("1 / -1", y.form(0, 1, 3), n(TOP, 0));
        y.sets(0, 2, 0, 1);
        due("1 / i", y.form(0, 1, 3), n(0, TOP));
    }

    private static void inverseIs(PortBench x, int u, int v) {
        x.sets(0, 2, u, v);
        int w = x.form(0, 1, 3);
        long real = (long) (w / 10007) * u - (long) (w % 10007) * v;
        long other = (long) (w / 10007) * v + (long) (w % 10007) * u;
        due("w * (" + u + ", " + v + "), first part", Math.floorMod(real, 10007L), 1);
        due("w * (" + u + ", " + v + "), second part", Math.floorMod(other, 10007L), 0);
        due("w is a NUMBER", w >= 0 && w <= 100140048 ? 0 : w, 0);
    }

    private static void overNothing() {
        PortBench x = benchOf(0, 0, 1, 0, 0, 0, 0, 0);
        refused("1 / 0", x, NO, () -> x.form(0, 1, 3));
        refused("0 / 0", x, NO, () -> x.form(0, 1, 1));
        x.sets(0, 2, 1, 0);
        due("0 / 1", x.form(0, 1, 1), 0);
        x.sets(0, 2, 0, 1);
        due("1 / i", x.form(0, 1, 3), n(0, TOP));
    }

    private static void others() {
        // s11 = s22 = z, nothing through: nothing is lost if x * x + y * y = 1.
        int[][] lossless = {{1, 0, 1}, {TOP, 0, 1}, {0, 1, 1}, {0, TOP, 1}, {0, 0, 0}, {1, 1, 0}, {2, 0, 0}};
        for (int[] z : lossless) {
            PortBench x = benchOf(z[0], z[1], 0, 0, 0, 0, z[0], z[1]);
            due("z = (" + z[0] + ", " + z[1] + ")", x.test(0, 3), z[2]);
        }
        // a = 1 + i and b with the squares of its parts -1 in all: (a, -OTHER of b, b, OTHER of a) loses nothing.
        int p = 0;
        int q = 0;
        for (int u = 1; u < 10007 && q == 0; u++) {
            for (int v = 1; v < u && q == 0; v++) {
                if ((u * u + v * v) % 10007 == TOP) {
                    p = u;
                    q = v;
                }
            }
        }
        PortBench y = benchOf(1, 1, 10007 - p, q, p, q, 1, TOP);
        due("a, -OTHER of b, b, OTHER of a", y.test(0, 3), 1);
        y.sets(0, 3, 1, 1);
        due("a, -OTHER of b, b, a", y.test(0, 3), 0);
        y.sets(0, 3, 1, TOP);
        y.sets(0, 1, 10007 - p, 10007 - q);
        due("a, -b, b, OTHER of a", y.test(0, 3), 0);
    }

    private static void leastAndGreatest() {
        int greatest = 100140048;
        PortBench x = benchOf(TOP, TOP, 0, 0, 1, 0, 1, 0);
        due("of", x.of(0, 0), greatest);
        due("of", x.of(0, 1), 0);
        due("det", x.det(0), greatest);
        due("ends", x.ends(0, 0, 0, 0), greatest);
        due("form", x.form(0, 1, 1), greatest);
        due("told", x.told(0, 0), greatest);
        due("told", x.told(0, 1), 0);
        due("sets, what it was", x.sets(0, 0, 0, 0), greatest);
        due("sets, what it was", x.sets(0, 0, 1, 1), 0);
        due("errs, what it was", x.errs(0, TOP, TOP), 0);
        due("error", x.error(0), greatest);
        x.learns();
        due("learnt", x.learnt(0), greatest);
        due("learnt", x.learnt(1), 0);
        due("errs, what it was", x.errs(0, 0, 0), greatest);
        due("error", x.error(0), 0);
        x.sets(0, 3, 0, 0);
        due("det", x.det(0), 0);
        due("ends", x.ends(0, 1, 0, 0), 0);
        due("form", x.form(0, 1, 2), 0);
    }

    // ---- BOXES, THE BENCH

    private static void boxNumbers() {
        PortBench x = new PortBench();
        x.learns();
        due("box", x.box(), 0);
        due("reads", x.reads(0), 1);
        due("chains", x.chains(0, 1), 2);
        due("peels", x.peels(2, 1, 0), 3);
        due("turns", x.turns(3), 4);
        due("does", done(x, "b0 0 1 0 1 0 0 0;r5;c6 6;"), 3);
        due("boxes", x.count(0), 8);
        due("drops", x.drops(3), 7);
        due("box", x.box(), 7);
    }

    private interface Maker {
        int go(PortBench x);
    }

    private static void neverMoreThanEight() {
        Maker[] makers = {x -> x.box(), x -> x.reads(6), x -> x.chains(5, 6), x -> x.peels(0, 3, 6), x -> x.turns(6)};
        for (int i = 0; i < makers.length; i++) {
            Maker maker = makers[i];
            PortBench x = benchWith(7);
            x.learns();
            leaves("maker " + i + " of the eighth", x, () -> maker.go(x), 7);
            due("maker " + i + " of the eighth", maker.go(x), 7);
            boxIs("the eighth of maker " + i, x, 7, 0, THROUGH, THROUGH, 0);
            refused("maker " + i + " of a ninth", x, FULL, () -> maker.go(x));
            refused("box 8", x, BAD, () -> x.of(8, 0));
            x.drops(0);
            due("maker " + i + ", one dropped", maker.go(x), 7);
        }
    }

    private static void neverMoreThanEightByText() {
        for (String order : new String[] {"b0 0 1 0 1 0 0 0;", "r6;", "c5 6;"}) {
            PortBench x = benchWith(7);
            x.learns();
            due("does the eighth, " + order, done(x, order), 1);
            due("boxes", x.count(0), 8);
            due("does a ninth, " + order, x.does(), -1000);
            due("boxes", x.count(0), 8);
            PortBench y = benchWith(7);
            y.learns();
            due("does the eighth and a ninth, " + order, done(y, order + order), -1001);
            due("boxes", y.count(0), 7);
            PortBench z = benchWith(6);
            z.learns();
            String near = order.replace('6', '5');
            due("does the seventh and the eighth, " + near, done(z, near + near), 2);
            due("boxes", z.count(0), 8);
        }
    }

    private static void errorsAtFirst() {
        PortBench x = new PortBench();
        int[] first = {0, 0, THROUGH, 0, 0, THROUGH, 0, 0, THROUGH, 0, 0, THROUGH};
        for (int k = 0; k < 12; k++) {
            due("error(" + k + ")", x.error(k), first[k]);
        }
    }

    private static void learntAtFirst() {
        PortBench x = benchWith(1);
        for (int k = 0; k < 12; k++) {
            int at = k;
            kept("learnt(" + k + ")", x, () -> x.learnt(at), NONE);
        }
        due("whether something is learnt", x.count(1), 0);
        refused("reads", x, NO, () -> x.reads(0));
        x.learns();
        due("whether something is learnt", x.count(1), 1);
        due("learnt(0)", x.learnt(0), 0);
        due("reads", x.reads(0), 1);
    }

    // ---- TOLD

    private static void nothingToldByD() {
        // e1, e4, s11, s22, s12 * s21; then whether d is 0.
        int[][] cases = {{1, 0, 1, 0, 0, 1}, {1, 0, 2, 0, 0, 0}, {1, 0, TOP, 0, 0, 0}, {TOP, 0, TOP, 0, 0, 1},
            {0, 1, 0, 1, 0, 1}, {0, 1, 0, 2, 0, 0}, {0, TOP, 0, TOP, 0, 1}, {2, 0, 5004, 0, 0, 1},
            {0, 2, 0, 5004, 0, 1},
            {2, 0, 5003, 0, 0, 0}, {2, 5004, 0, 0, 1, 1}, {2, 5004, 0, 0, 2, 0}, {1, 1, 0, 0, 1, 1},
            {1, 1, 3, 0, 10005, 1},
            {1, 1, 0, 3, 10005, 1}, {1, 1, 3, 3, 4, 1}, {1, 1, 3, 3, 5, 0}, {0, 0, 1, 1, 1, 0}, {0, 1, 1, 0, 1, 0},
            {1, 0, 0, 1, 1, 0}};
        for (int[] c : cases) {
            for (int e5 = 0; e5 < 2; e5++) {
                PortBench x = benchOf(c[2], 0, c[4], 0, 1, 0, c[3], 0);
                x.errs(1, c[0], 0);
                x.errs(4, c[1], 0);
                // Without anything above the line it is 0 / 0, and still not to be had.
                x.errs(5, e5, 0);
                tellsOrNot("d with " + Arrays.toString(c), x, c[5] == 1);
            }
        }
    }

    private static void nothingToldByF() {
        // e10, e7, s11, s22, s12 * s21; then whether f is 0.
        int[][] cases = {{1, 0, 1, 0, 0, 1}, {1, 0, 2, 0, 0, 0}, {TOP, 0, TOP, 0, 0, 1}, {0, 1, 0, 1, 0, 1},
            {0, 1, 0, 2, 0, 0}, {0, TOP, 0, TOP, 0, 1}, {0, TOP, 0, 1, 0, 0}, {2, 0, 5004, 0, 0, 1},
            {0, 2, 0, 5004, 0, 1},
            {0, 2, 0, 5003, 0, 0}, {2, 5004, 0, 0, 1, 1}, {2, 5004, 0, 0, 2, 0}, {1, 1, 3, 0, 10005, 1},
            {1, 1, 0, 3, 10005, 1}, {1, 1, 3, 3, 4, 1}, {1, 1, 3, 3, 5, 0}, {0, 0, 1, 1, 1, 0}, {0, 1, 1, 0, 1, 0},
            {1, 0, 0, 1, 1, 0}};
        for (int[] c : cases) {
            for (int e11 = 0; e11 < 2; e11++) {
                PortBench x = benchOf(c[2], 0, c[4], 0, 1, 0, c[3], 0);
                x.errs(10, c[0], 0);
                x.errs(7, c[1], 0);
                x.errs(11, e11, 0);
                tellsOrNot("f with " + Arrays.toString(c), x, c[5] == 1);
            }
        }
    }

    private static void tellsOrNot(String what, PortBench x, boolean nothing) {
        for (int k = 0; k < 4; k++) {
            int at = k;
            if (nothing) {
                refused(what + ", k " + k, x, NO, () -> x.told(0, at));
            } else {
                due(what + ", k " + k + " is told", x.told(0, at) < 0 ? 1 : 0, 0);
            }
        }
    }

    // ---- LEARNING, READING

    private static void notToldForLearning() {
        // OPEN and SHORT are not told by e1 (d) and e10 (f), the two of side 2 by e4 (d) and e7 (f).
        for (int k : new int[] {1, 4, 7, 10}) {
            for (int part : new int[] {1, TOP}) {
                learnsNot("e" + k + " = " + part, k, part, 0);
            }
            for (int part : new int[] {0, 2, 10005, 5003, 5004}) {
                learnsAll("e" + k + " = " + part, k, part, 0);
            }
            learnsAll("e" + k + " = i", k, 0, 1);
            learnsAll("e" + k + " = -i", k, 0, TOP);
            learnsAll("e" + k + " = 1 + i", k, 1, 1);
        }
        // THE THROUGH is not told if e1 * e4 = 1 (d) or e7 * e10 = 1 (f).
        for (int k : new int[] {1, 7}) {
            PortBench x = new PortBench();
            x.errs(k, 2, 0);
            x.errs(k + 3, 5003, 0);
            due("product with e" + k + " is -1", x.learns(), 12);
            x.errs(k + 3, 5004, 0);
            refused("product with e" + k + " is 1", x, NO, x::learns);
            x.errs(k + 3, 5005, 0);
            due("product with e" + k + " is 3", x.learns(), 12);
        }
        // i * -i is 1, too.
        PortBench y = new PortBench();
        y.errs(1, 0, 1);
        y.errs(4, 0, 1);
        due("e1 * e4 = i * i", y.learns(), 12);
        y.errs(4, 0, TOP);
        refused("e1 * e4 = i * -i", y, NO, y::learns);
        // No standard has both sides ended: these two products are not asked for.
        PortBench z = new PortBench();
        z.errs(1, 2, 0);
        z.errs(10, 5004, 0);
        due("e1 * e10 = 1", z.learns(), 12);
    }

    /** a = b for e2 = 0 and for e8 = 0. What THE THROUGH divides by is never 0, if the steps before it stand. */
    private static void learningDividesByNothing() {
        for (int k : new int[] {2, 8}) {
            learnsNot("e" + k + " = 0", k, 0, 0);
            learnsAll("e" + k + " = i", k, 0, 1);
            learnsAll("e" + k + " = -1", k, TOP, 0);
        }
        for (int k : new int[] {0, 3, 5, 6, 9, 11}) {
            learnsAll("e" + k + " = 0", k, 0, 0);
            learnsAll("e" + k + " = 1", k, 1, 0);
            learnsAll("e" + k + " = -1", k, TOP, 0);
        }
    }

    private static void learnsAll(String what, int k, int x, int y) {
        PortBench bench = new PortBench();
        bench.errs(k, x, y);
        leaves("learns with " + what, bench, bench::learns, 12);
        bench.learns();
        for (int i = 0; i < 12; i++) {
            due("g" + i + " with " + what, bench.learnt(i), bench.error(i));
        }
    }

    private static void learnsNot(String what, int k, int x, int y) {
        PortBench bench = new PortBench();
        bench.errs(k, x, y);
        refused("learns with " + what, bench, NO, bench::learns);
        due("whether something is learnt with " + what, bench.count(1), 0);
        due("learnt with " + what, bench.learnt(k), NONE);
    }

    private static void readingDividesByNothing() {
        // g5 and g11 may be 0 (g2 and g8 can not, else nothing was learnt).
        for (int k : new int[] {5, 11}) {
            PortBench x = benchWith(1);
            x.errs(k, 0, 0);
            x.learns();
            refused("g" + k + " = 0", x, NO, () -> x.reads(0));
            x.errs(k, 0, 1);
            refused("g" + k + " = 0 yet", x, NO, () -> x.reads(0));
            x.learns();
            due("g" + k + " = i", x.reads(0), 1);
            due("what was read", x.like(1), 0);
        }
        // Learnt with e1 (e7), read without: 1 + n11 * g1 (1 + n22 * g7) is 0 for n = 5003, s12 being 0.
        for (int side = 0; side < 2; side++) {
            PortBench x = benchOf(0, 0, 0, 0, 1, 0, 0, 0);
            x.errs(1 + 6 * side, 2, 0);
            x.learns();
            x.errs(1 + 6 * side, 0, 0);
            x.sets(0, 3 * side, 5003, 0);
            refused("q = 0, side " + side, x, NO, () -> x.reads(0));
            x.sets(0, 3 * side, 5002, 0);
            due("q = -1, side " + side, x.reads(0), 1);
            x.sets(0, 3 * side, 5004, 0);
            due("q = 2, side " + side, x.reads(0), 2);
        }
        // Learnt g4 = g10 = 1 / 2, so that q = 1 - s12 * s21 / 4.
        PortBench y = benchOf(0, 0, 2, 0, 2, 0, 0, 0);
        y.errs(4, 5004, 0);
        y.errs(10, 5004, 0);
        y.learns();
        y.errs(4, 0, 0);
        y.errs(10, 0, 0);
        refused("q = 0 by g4 * g10", y, NO, () -> y.reads(0));
        y.sets(0, 1, 3, 0);
        due("q is not 0", y.reads(0), 1);
        notToldForReading();
    }

    private static void notToldForReading() {
        PortBench x = benchOf(1, 0, 0, 0, 1, 0, 0, 0);
        x.learns();
        for (int k : new int[] {1, 10}) {
            x.errs(k, 1, 0);
            refused("nothing is TOLD by e" + k, x, NO, () -> x.reads(0));
            x.errs(k, 0, 0);
        }
        due("something is TOLD", x.reads(0), 1);
    }

    // ---- CHAINS, FORMS

    private static void transferForm() {
        PortBench x = benchOf(0, 0, 1, 0, 0, 0, 0, 0, 0, 0, 1, 0, 1, 0, 0, 0);
        refused("form, s21 = 0", x, NO, () -> x.form(0, 1, 0));
        refused("chains, s21 of a = 0", x, NO, () -> x.chains(0, 1));
        refused("chains, s21 of b = 0", x, NO, () -> x.chains(1, 0));
        refused("chains, s21 of both = 0", x, NO, () -> x.chains(0, 0));
        refused("peels, s21 of m = 0", x, NO, () -> x.peels(0, 1, 1));
        refused("peels, s21 of a = 0", x, NO, () -> x.peels(1, 0, 1));
        refused("peels, s21 of b = 0", x, NO, () -> x.peels(1, 1, 0));
        int[][] least = {{1, 0}, {0, 1}, {TOP, 0}, {0, TOP}};
        for (int[] s21 : least) {
            x.sets(0, 2, s21[0], s21[1]);
            due("form", x.form(0, 1, 1), 0);
            due("chains", x.chains(0, 1), 2);
            due("chains", x.like(2), x.like(0));
            due("peels", x.peels(0, 1, 1), 3);
            due("peels", x.like(3), x.like(0));
            x.drops(3);
            x.drops(2);
        }
        // s12 may be 0 for a FORM and for a CHAIN.
        PortBench y = benchOf(3, 0, 0, 0, 1, 0, 0, 0);
        due("form, s12 = 0", y.form(0, 1, 1), n(3, 0));
        due("chains, s12 = 0", y.chains(0, 0), 1);
    }

    /** t3 of a CHAIN is 0 where s22 of a times s11 of b is 1. */
    private static void backFromTransfer() {
        int[][] cases = {{1, 0, 1, 0, 1}, {1, 0, 2, 0, 0}, {1, 0, TOP, 0, 0}, {2, 0, 5004, 0, 1}, {2, 0, 5003, 0, 0},
            {0, 1, 0, TOP, 1}, {0, 1, 0, 1, 0}, {TOP, 0, TOP, 0, 1}, {0, 0, 1, 0, 0}, {1, 0, 0, 0, 0}};
        for (int[] c : cases) {
            PortBench x = benchOf(0, 0, 1, 0, 1, 0, c[0], c[1], c[2], c[3], 1, 0, 1, 0, 0, 0);
            String what = "chains with " + Arrays.toString(c);
            if (c[4] == 1) {
                refused(what, x, NO, () -> x.chains(0, 1));
                due(what + ", the other way", x.chains(1, 0), 2);
            } else {
                due(what, x.chains(0, 1), 2);
            }
        }
        // A box with itself: s22 * s11 = 1.
        PortBench y = benchOf(2, 0, 1, 0, 1, 0, 5004, 0);
        refused("chains of one with itself", y, NO, () -> y.chains(0, 0));
        y.sets(0, 3, 5003, 0);
        due("chains of one with itself", y.chains(0, 0), 1);
        // Peeled by throughs but for s22 of a = 1: t3 is 1 + s11 of m.
        PortBench z = benchOf(TOP, 0, 1, 0, 1, 0, 0, 0, 0, 0, 1, 0, 1, 0, 1, 0, 0, 0, 1, 0, 1, 0, 0, 0);
        refused("peels, s11 of m = -1", z, NO, () -> z.peels(0, 1, 2));
        z.sets(0, 0, 10005, 0);
        due("peels, s11 of m = -2", z.peels(0, 1, 2), 3);
        z.sets(0, 0, 0, 0);
        due("peels, s11 of m = 0", z.peels(0, 1, 2), 4);
    }

    /** n of a TRANSFER FORM is s12 / s21. */
    private static void inverseForPeeling() {
        PortBench x = benchOf(0, 0, 1, 0, 1, 0, 0, 0, 0, 0, 0, 0, 1, 0, 0, 0);
        refused("peels, s12 of a = 0", x, NO, () -> x.peels(0, 1, 0));
        refused("peels, s12 of b = 0", x, NO, () -> x.peels(0, 0, 1));
        refused("peels by itself, s12 = 0", x, NO, () -> x.peels(1, 1, 1));
        due("peels, s12 of m = 0", x.peels(1, 0, 0), 2);
        due("peels, s12 of m = 0", x.like(2), 1);
        x.sets(1, 1, 0, 1);
        due("peels, s12 of a = i", x.peels(0, 1, 0), 3);
        boxIs("peeled by a with s12 = i", x, 3, 0, n(0, TOP), THROUGH, 0);
        due("peels, s12 of b = i", x.peels(0, 0, 1), 4);
        due("peels by itself, s12 = i", x.peels(1, 1, 1), 5);
        boxIs("peeled by itself", x, 5, 0, n(0, TOP), THROUGH, 0);
    }

    private static void secondForm() {
        // s11, s22, s12 (s21 is 1); then whether n = (1 - s11) * (1 - s22) - s12 is 0.
        int[][] cases = {{0, 0, 1, 1}, {0, 0, 2, 0}, {0, 0, 0, 0}, {1, 0, 0, 1}, {0, 1, 0, 1}, {1, 1, 0, 1},
            {1, 1, 1, 0}, {3, 4, 6, 1}, {3, 4, 5, 0}, {TOP, 0, 2, 1}, {TOP, 0, 1, 0}, {2, 0, TOP, 1}};
        for (int[] c : cases) {
            PortBench x = benchOf(c[0], 0, c[2], 0, 1, 0, c[1], 0);
            for (int k = 0; k < 4; k++) {
                int at = k;
                String what = "form 2 of " + Arrays.toString(c) + ", k " + k;
                if (c[3] == 1) {
                    refused(what, x, NO, () -> x.form(0, 2, at));
                    refused("form 3 where there is no " + what, x, NO, () -> x.form(0, 3, at));
                } else {
                    due(what, x.form(0, 2, at) < 0 ? 1 : 0, 0);
                }
            }
        }
        // FORM 2 asks nothing of s21.
        PortBench y = benchOf(0, 0, 0, 0, 0, 0, 0, 0);
        due("form 2 of nothing", y.form(0, 2, 0), THROUGH);
        due("form 2 of nothing", y.form(0, 2, 1), 0);
    }

    /** FORM 2 has an inverse where (1 + s11) * (1 + s22) - s12 * s21 is not 0. */
    private static void thirdForm() {
        // s11, s22, s12 (s21 is 1); then whether there is no inverse.
        int[][] cases = {{TOP, 0, 0, 1}, {0, TOP, 0, 1}, {TOP, TOP, 0, 1}, {TOP, 0, 1, 0}, {2, 3, 12, 1}, {2, 3, 11, 0},
            {10005, 0, TOP, 1}, {0, 0, 0, 0}};
        for (int[] c : cases) {
            PortBench x = benchOf(c[0], 0, c[2], 0, 1, 0, c[1], 0);
            for (int k = 0; k < 4; k++) {
                int at = k;
                String what = " of " + Arrays.toString(c) + ", k " + k;
                due("form 2" + what, x.form(0, 2, at) < 0 ? 1 : 0, 0);
                if (c[3] == 1) {
                    refused("form 3" + what, x, NO, () -> x.form(0, 3, at));
                } else {
                    due("form 3" + what, x.form(0, 3, at) < 0 ? 1 : 0, 0);
                }
            }
        }
    }
}
