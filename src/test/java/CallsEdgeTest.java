import java.util.Arrays;
import java.util.function.IntSupplier;

/**
 * The boundary cases of the promises, a method for each promise: the range of each number that a call is given, at
 * the last value that is taken and at the first one that is not, and what else the promise says of its edges.
 */
public final class CallsEdgeTest extends Held {
    public static void main(String[] args) {
        about("1: As told; no BOXES"); aNewObject();
        about("2: A new BOX, THE THROUGH. FULL: 8"); box();
        about("3: NUMBER k (0 .. 3) of BOX b becomes x + y i: what it was"); sets();
        about("4: e k (0 .. 11) becomes x + y i: what it was"); errs();
        about("5: BOX b goes (numbers behind it are one less): how many are left"); drops();
        about("6: NUMBER k of BOX b"); of();
        about("7: e k"); error();
        about("8: What THE BENCH TELLS of BOX b"); told();
        about("9: NO (what was LEARNT stays)"); learns();
        about("10: g k; NONE: nothing is LEARNT"); learnt();
        about("11: what READING BOX b gives. NO: nothing is LEARNT, too; FULL: 8"); reads();
        about("12: the CHAIN of a, b (perhaps alike)"); chains();
        about("13: PEELED of m by a and b (perhaps alike)"); peels();
        about("14: b TURNED ABOUT. FULL: 8"); turns();
        about("15: NUMBER k of FORM f (1 .. 3) of BOX b, row by row"); form();
        about("16: det of BOX b"); det();
        about("17: NO: what is divided by is 0"); ends();
        about("18: Of BOX b: whether ..."); test();
        about("19: The least BOX that is as BOX b (perhaps itself)"); like();
        about("20: A byte (0 .. 127) comes behind THE TEXT. FULL: 120"); type();
        about("21: THE TEXT is empty: how many it had"); clear();
        about("22: ORDERS are done (THE TEXT stays): how many"); does();
        about("22: -10 less the FAULT"); doesFault();
        about("22: -1000 less the number (0 on) of the ORDER"); doesOrder();
        about("23: A STATE back: how many can be yet. NO: none"); back();
        about("24: count(0 .. 6)"); count(); countsAtTheirEnds();
        about("25: digest"); digest();
        end("the edges of the promises hold");
    }

    // ---- ranges

    private interface Asked {
        int go(PortBench x, int number);
    }

    /** None of low .. high is BAD (of many the two at either end); what lies beyond is, and changes nothing else. */
    private static void ranges(String what, PortBench x, int low, int high, Asked call) {
        for (int i = low; i <= high; i++) {
            if (high - low < 20 || i < low + 2 || i > high - 2) {
                due(what + " takes " + i, call.go(x, i) == BAD ? 1 : 0, 0);
            }
        }
        due(what + ", none of them was BAD", x.count(2), 0);
        for (int beyond : new int[] {low - 1, high + 1, Integer.MIN_VALUE, Integer.MAX_VALUE}) {
            refused(what + " given " + beyond, x, BAD, () -> call.go(x, beyond));
        }
    }

    /** Box numbers: none is taken without boxes, 0 alone of one, 0 .. 6 of seven, 0 .. 7 of eight. */
    private static void boxRanges(String what, Asked call) {
        for (int boxes : new int[] {0, 1, 7, 8}) {
            PortBench x = benchWith(boxes);
            x.learns();
            for (int b = 0; b < boxes; b++) {
                due(what + " takes box " + b + " of " + boxes, call.go(x, b) == BAD ? 1 : 0, 0);
                if (x.count(0) != boxes) {
                    x.back();
                }
            }
            due(what + ", none of them was BAD", x.count(2), 0);
            for (int beyond : new int[] {-1, boxes, boxes + 1, 8, Integer.MIN_VALUE, Integer.MAX_VALUE}) {
                refused(what + " of " + boxes + " given " + beyond, x, BAD, () -> call.go(x, beyond));
            }
        }
    }

    /** Eight boxes, number k of box b being b + k i. */
    private static PortBench marked() {
        PortBench x = new PortBench();
        for (int b = 0; b < 8; b++) {
            x.box();
            for (int k = 0; k < 4; k++) {
                x.sets(b, k, b, k);
            }
        }
        return x;
    }

    // ---- 1 to 7

    private static void aNewObject() {
        PortBench x = new PortBench();
        for (int what = 0; what < 7; what++) {
            int at = what;
            kept("count(" + what + ")", x, () -> x.count(at), 0);
        }
        refused("of(0, 0)", x, BAD, () -> x.of(0, 0));
        refused("back", x, NO, x::back);
        due("clear", x.clear(), 0);
    }

    private static void box() {
        PortBench x = new PortBench();
        for (int b = 0; b < 8; b++) {
            due("box", x.box(), b);
            boxIs("box " + b, x, b, 0, THROUGH, THROUGH, 0);
        }
        refused("a ninth", x, FULL, x::box);
        refused("a ninth again", x, FULL, x::box);
        // What stood where the new box comes must not show.
        PortBench y = marked();
        y.drops(7);
        due("box", y.box(), 7);
        boxIs("a box where another was", y, 7, 0, THROUGH, THROUGH, 0);
        boxIs("the box ahead of it", y, 6, n(6, 0), n(6, 1), n(6, 2), n(6, 3));
    }

    private static void sets() {
        ranges("sets k", benchWith(1), 0, 3, (x, k) -> x.sets(0, k, 1, 1));
        ranges("sets x", benchWith(1), 0, 10006, (x, u) -> x.sets(0, 0, u, 1));
        ranges("sets y", benchWith(1), 0, 10006, (x, v) -> x.sets(0, 0, 1, v));
        boxRanges("sets", (x, b) -> x.sets(b, 0, 1, 1));
        PortBench x = marked();
        for (int b = 0; b < 8; b += 7) {
            for (int k = 0; k < 4; k++) {
                due("sets(" + b + ", " + k + ")", x.sets(b, k, TOP - k, TOP), n(b, k));
                due("what it became", x.of(b, k), n(TOP - k, TOP));
            }
        }
        boxIs("box 1", x, 1, n(1, 0), n(1, 1), n(1, 2), n(1, 3));
        boxIs("box 6", x, 6, n(6, 0), n(6, 1), n(6, 2), n(6, 3));
        refused("all wrong", x, BAD, () -> x.sets(-1, -1, -1, -1));
    }

    private static void errs() {
        ranges("errs k", new PortBench(), 0, 11, (x, k) -> x.errs(k, 1, 1));
        ranges("errs x", new PortBench(), 0, 10006, (x, u) -> x.errs(0, u, 1));
        ranges("errs y", new PortBench(), 0, 10006, (x, v) -> x.errs(0, 1, v));
        PortBench x = new PortBench();
        for (int k = 0; k < 12; k += 11) {
            due("errs(" + k + ")", x.errs(k, k + 1, TOP), k == 0 ? 0 : THROUGH);
            due("what it became", x.error(k), n(k + 1, TOP));
            due("errs(" + k + ") again", x.errs(k, 0, 0), n(k + 1, TOP));
        }
        due("e1", x.error(1), 0);
        due("e10", x.error(10), 0);
        refused("all wrong", x, BAD, () -> x.errs(12, 10007, 10007));
    }

    private static void drops() {
        boxRanges("drops", (x, b) -> x.drops(b));
        for (int gone = 0; gone < 8; gone++) {
            PortBench x = marked();
            int which = gone;
            leaves("drops " + gone, x, () -> x.drops(which), 7);
            due("drops " + gone, x.drops(gone), 7);
            for (int b = 0; b < 7; b++) {
                int was = b < gone ? b : b + 1;
                boxIs("box " + b + " without " + gone, x, b, n(was, 0), n(was, 1), n(was, 2), n(was, 3));
            }
            refused("box 7", x, BAD, () -> x.of(7, 0));
            refused("drops 7", x, BAD, () -> x.drops(7));
        }
        PortBench y = marked();
        for (int left = 7; left >= 0; left--) {
            due("drops the first", y.drops(0), left);
        }
        refused("drops of none", y, BAD, () -> y.drops(0));
    }

    private static void of() {
        ranges("of k", benchWith(1), 0, 3, (x, k) -> x.of(0, k));
        boxRanges("of", (x, b) -> x.of(b, 0));
        PortBench x = marked();
        for (int b = 0; b < 8; b++) {
            for (int k = 0; k < 4; k++) {
                due("of(" + b + ", " + k + ")", x.of(b, k), n(b, k));
            }
        }
        kept("the last of the last", x, () -> x.of(7, 3), n(7, 3));
    }

    private static void error() {
        ranges("error", new PortBench(), 0, 11, (x, k) -> x.error(k));
        PortBench x = new PortBench();
        for (int k = 0; k < 12; k++) {
            x.errs(k, k, 1);
        }
        for (int k = 0; k < 12; k++) {
            int at = k;
            kept("error(" + k + ")", x, () -> x.error(at), n(k, 1));
        }
    }

    // ---- 8 to 11

    private static void told() {
        ranges("told k", benchWith(1), 0, 3, (x, k) -> x.told(0, k));
        boxRanges("told", (x, b) -> x.told(b, 0));
        PortBench x = marked();
        for (int b = 0; b < 8; b += 7) {
            for (int k = 0; k < 4; k++) {
                due("told(" + b + ", " + k + ")", x.told(b, k), n(b, k));
            }
        }
        // e0, e3, e6, e9 are what is told of nothing: m11, m21, m22, m12.
        PortBench y = benchOf(0, 0, 0, 0, 0, 0, 0, 0);
        for (int k = 0; k < 12; k += 3) {
            y.errs(k, k + 1, 0);
        }
        int[] want = {1, 10, 4, 7};
        for (int k = 0; k < 4; k++) {
            int at = k;
            kept("told k " + k, y, () -> y.told(0, at), n(want[k], 0));
        }
    }

    private static void learns() {
        PortBench x = new PortBench();
        x.errs(0, 5, 5);
        due("learns", x.learns(), 12);
        due("learnt 0", x.learnt(0), n(5, 5));
        int[][] bars = {{1, 1}, {1, TOP}, {4, 1}, {4, TOP}, {7, 1}, {7, TOP}, {10, 1}, {10, TOP}, {2, 0}, {8, 0}};
        for (int[] bar : bars) {
            x.errs(0, 6, 6);
            x.errs(bar[0], bar[1], 0);
            refused("learns, e" + bar[0] + " = " + bar[1], x, NO, x::learns);
            for (int k = 0; k < 12; k++) {
                due("what was learnt stays, g" + k, x.learnt(k), k == 0 ? n(5, 5) : k % 3 == 2 ? THROUGH : 0);
            }
            due("whether something is learnt", x.count(1), 1);
            x.errs(bar[0], bar[0] % 3 == 2 ? 1 : 0, 0);
        }
        due("learns", x.learns(), 12);
        due("learnt 0", x.learnt(0), n(6, 6));
        PortBench y = new PortBench();
        y.errs(2, 0, 0);
        refused("learns at first", y, NO, y::learns);
        due("nothing is learnt", y.learnt(2), NONE);
    }

    private static void learnt() {
        ranges("learnt, nothing is LEARNT", new PortBench(), 0, 11, (x, k) -> x.learnt(k));
        PortBench x = new PortBench();
        for (int k = 0; k < 12; k++) {
            int at = k;
            kept("learnt(" + k + ")", x, () -> x.learnt(at), NONE);
            x.errs(k, k + 20, k);
        }
        due("learns", x.learns(), 12);
        for (int k = 0; k < 12; k++) {
            int at = k;
            kept("learnt(" + k + ")", x, () -> x.learnt(at), n(k + 20, k));
        }
        ranges("learnt, something is LEARNT", x, 0, 11, (y, k) -> y.learnt(k));
        due("back", x.back(), 4);
        due("learnt, gone back", x.learnt(0), NONE);
        refused("learnt(12), gone back", x, BAD, () -> x.learnt(12));
    }

    private static void reads() {
        boxRanges("reads", (x, b) -> x.reads(b));
        PortBench x = benchWith(8);
        refused("nothing is LEARNT, 8 BOXES", x, NO, () -> x.reads(7));
        refused("no such BOX, nothing is LEARNT", x, BAD, () -> x.reads(8));
        x.drops(7);
        refused("nothing is LEARNT", x, NO, () -> x.reads(6));
        refused("no such BOX", x, BAD, () -> x.reads(7));
        x.learns();
        x.sets(6, 0, 3, 4);
        leaves("something is LEARNT, 7 BOXES", x, () -> x.reads(6), 7);
        due("reads", x.reads(6), 7);
        due("what was read", x.like(7), 6);
        refused("8 BOXES", x, FULL, () -> x.reads(7));
        PortBench y = benchWith(1);
        y.learns();
        y.back();
        refused("what was LEARNT is gone back", y, NO, () -> y.reads(0));
    }

    // ---- 12 to 19

    private static void chains() {
        boxRanges("chains a", (x, a) -> x.chains(a, 0));
        boxRanges("chains b", (x, b) -> x.chains(0, b));
        boxRanges("chains a, b alike", (x, b) -> x.chains(b, b));
        PortBench x = benchWith(7);
        x.sets(0, 1, 2, 0);
        x.sets(6, 2, 3, 0);
        leaves("the first and the last", x, () -> x.chains(0, 6), 7);
        due("the first and the last", x.chains(0, 6), 7);
        boxIs("chain", x, 7, 0, n(2, 0), n(3, 0), 0);
        refused("8 BOXES", x, FULL, () -> x.chains(6, 7));
        refused("8 BOXES, alike", x, FULL, () -> x.chains(7, 7));
        x.sets(7, 2, 0, 0);
        refused("no FORM, 8 BOXES", x, NO, () -> x.chains(6, 7));
        refused("no FORM, 8 BOXES", x, NO, () -> x.chains(7, 6));
        PortBench y = benchOf(0, 0, 2, 0, 3, 0, 0, 0);
        due("alike", y.chains(0, 0), 1);
        boxIs("chain of one with itself", y, 1, 0, n(4, 0), n(9, 0), 0);
    }

    private static void peels() {
        boxRanges("peels m", (x, m) -> x.peels(m, 0, 0));
        boxRanges("peels a", (x, a) -> x.peels(0, a, 0));
        boxRanges("peels b", (x, b) -> x.peels(0, 0, b));
        boxRanges("peels, all alike", (x, b) -> x.peels(b, b, b));
        PortBench x = benchWith(7);
        x.sets(6, 1, 6, 0);
        x.sets(6, 2, 10, 0);
        x.sets(5, 1, 2, 0);
        x.sets(0, 2, 5, 0);
        leaves("the last by the others", x, () -> x.peels(6, 5, 0), 7);
        due("the last by the others", x.peels(6, 5, 0), 7);
        boxIs("peeled", x, 7, 0, n(3, 0), n(2, 0), 0);
        refused("8 BOXES", x, FULL, () -> x.peels(5, 6, 7));
        x.sets(7, 1, 0, 0);
        refused("no INVERSE, 8 BOXES", x, NO, () -> x.peels(5, 6, 7));
        refused("no INVERSE, 8 BOXES", x, NO, () -> x.peels(5, 7, 6));
        refused("m without INVERSE, 8 BOXES", x, FULL, () -> x.peels(7, 5, 6));
        PortBench y = benchOf(0, 0, 2, 0, 4, 0, 0, 0);
        due("all alike", y.peels(0, 0, 0), 1);
        boxIs("one peeled by itself", y, 1, 0, n(5004, 0), n(inverse(4), 0), 0);
    }

    private static void turns() {
        boxRanges("turns", (x, b) -> x.turns(b));
        PortBench x = marked();
        refused("8 BOXES", x, FULL, () -> x.turns(7));
        refused("8 BOXES, the first", x, FULL, () -> x.turns(0));
        x.drops(0);
        leaves("7 BOXES", x, () -> x.turns(6), 7);
        due("turns the last", x.turns(6), 7);
        boxIs("turned about", x, 7, n(7, 3), n(7, 2), n(7, 1), n(7, 0));
        // It divides by nothing: a box of nothing is turned, too.
        PortBench y = benchOf(0, 0, 0, 0, 0, 0, 0, 0);
        due("turns nothing", y.turns(0), 1);
        due("turned nothing", y.like(1), 0);
    }

    private static void form() {
        ranges("form f", benchWith(1), 1, 3, (x, f) -> x.form(0, f, 0));
        for (int f = 1; f <= 3; f++) {
            int which = f;
            ranges("form " + f + " k", benchWith(1), 0, 3, (x, k) -> x.form(0, which, k));
            boxRanges("form " + f, (x, b) -> x.form(b, which, 0));
        }
        PortBench x = benchOf(0, 0, 2, 0, 1, 0, 0, 0);
        // FORM 1: det = -2. FORM 2: n = -1. FORM 3: the inverse, its n = 9 - 8.
        int[][] want = {{2, 0, 0, 1}, {-3, -4, -2, -3}, {-3, 4, 2, -3}};
        for (int f = 1; f <= 3; f++) {
            for (int k = 0; k < 4; k++) {
                int which = f;
                int at = k;
                kept("form " + f + ", k " + k, x, () -> x.form(0, which, at),
                    n(Math.floorMod(want[f - 1][k], 10007), 0));
            }
        }
        x.sets(0, 2, 0, 0);
        for (int k = 0; k < 4; k++) {
            int at = k;
            refused("no FORM 1, k " + k, x, NO, () -> x.form(0, 1, at));
        }
        due("FORM 2 there is", x.form(0, 2, 0), THROUGH);
        due("FORM 3 there is", x.form(0, 3, 0), THROUGH);
    }

    private static void det() {
        boxRanges("det", (x, b) -> x.det(b));
        PortBench x = marked();
        // b * (b + 3 i) - (b + i) * (b + 2 i) = 2 for each of them.
        for (int b = 0; b < 8; b++) {
            int at = b;
            kept("det " + b, x, () -> x.det(at), n(2, 0));
        }
        PortBench y = benchOf(0, 0, 0, 0, 0, 0, 0, 0);
        due("det of nothing", y.det(0), 0);
    }

    private static void ends() {
        ranges("ends side", benchWith(1), 0, 1, (x, side) -> x.ends(0, side, 1, 1));
        ranges("ends x", benchWith(1), 0, 10006, (x, u) -> x.ends(0, 0, u, 1));
        ranges("ends y", benchWith(1), 0, 10006, (x, v) -> x.ends(0, 1, 1, v));
        boxRanges("ends", (x, b) -> x.ends(b, 0, 1, 1));
        for (int side = 0; side < 2; side++) {
            int at = side;
            // s22 (s11) is 1, all else of it 1, too: what is divided by is 1 - z.
            PortBench x = benchOf(1, 0, 1, 0, 1, 0, 1, 0);
            refused("z = 1", x, NO, () -> x.ends(0, at, 1, 0));
            kept("z = 0", x, () -> x.ends(0, at, 0, 0), n(1, 0));
            kept("z = 2", x, () -> x.ends(0, at, 2, 0), n(TOP, 0));
            kept("z = -1", x, () -> x.ends(0, at, TOP, 0), n(5004, 0));
            // 1 + (1 + i) / (0 - i) = 1 + i - 1.
            kept("z = 1 + i", x, () -> x.ends(0, at, 1, 1), n(0, 1));
            x.sets(0, 1, 0, 0);
            refused("z = 1, nothing through", x, NO, () -> x.ends(0, at, 1, 0));
            // The near side's own number does not matter to what is divided by.
            x.sets(0, 3 * (1 - side), 0, 0);
            kept("far number 0", x, () -> x.ends(0, at, 1, 0), n(1, 0));
            kept("the greatest z", x, () -> x.ends(0, at, TOP, TOP), n(1, 0));
        }
    }

    private static void test() {
        ranges("test what", benchWith(1), 0, 3, (x, what) -> x.test(0, what));
        boxRanges("test", (x, b) -> x.test(b, 3));
        // A box, then what is due for 0 .. 3: each test holds, and just fails by either part of a number.
        int[][] boxes = {{0, 0, 1, 0, 1, 0, 0, 0, 1, 1, 1, 1}, {0, 0, 1, 1, 1, 0, 0, 0, 0, 1, 1, 0},
            {0, 0, 2, 0, 1, 0, 0, 0, 0, 1, 1, 0}, {0, 1, 1, 0, 1, 0, 0, 0, 1, 0, 0, 0},
            {0, 0, 1, 0, 1, 0, 0, 1, 1, 0, 0, 0},
            {0, 1, 1, 0, 1, 0, 0, 1, 1, 1, 0, 0}, {1, 0, 1, 0, 1, 0, 0, 0, 1, 0, 0, 0},
            {0, 0, 1, 0, 1, 0, 1, 0, 1, 0, 0, 0},
            {0, 0, TOP, 0, 1, 0, 0, 0, 0, 1, 1, 1}, {0, 0, 0, 1, 0, TOP, 0, 0, 0, 1, 1, 1},
            {0, 0, 0, 0, 0, 0, 0, 0, 1, 1, 1, 0},
            {1, 0, 0, 0, 0, 0, 1, 0, 1, 1, 0, 1}, {1, 0, 0, 0, 0, 0, 2, 0, 1, 0, 0, 0},
            {2, 0, 0, 0, 0, 0, 1, 0, 1, 0, 0, 0},
            // Each column's squares are 1 in all, yet r11 * s12 + r21 * s22 is not 0.
            {1, 0, 1, 0, 0, 0, 0, 0, 0, 0, 0, 0}};
        for (int[] c : boxes) {
            PortBench x = benchOf(c);
            for (int what = 0; what < 4; what++) {
                int at = what;
                kept("test " + what + " of " + Arrays.toString(c), x, () -> x.test(0, at), c[8 + what]);
            }
        }
    }

    private static void like() {
        boxRanges("like", (x, b) -> x.like(b));
        PortBench x = benchWith(8);
        kept("the last of eight alike", x, () -> x.like(7), 0);
        kept("the first of eight alike", x, () -> x.like(0), 0);
        for (int k = 0; k < 4; k++) {
            PortBench y = benchWith(3);
            y.sets(0, k, 5, 0);
            kept("number " + k + " of box 0 is other", y, () -> y.like(2), 1);
            y.sets(1, k, 5, 1);
            kept("itself alone", y, () -> y.like(2), 2);
            kept("itself alone", y, () -> y.like(1), 1);
            y.sets(2, k, 5, 0);
            kept("as box 0 again", y, () -> y.like(2), 0);
        }
        PortBench z = marked();
        for (int b = 0; b < 8; b++) {
            due("itself", z.like(b), b);
        }
    }

    // ---- 20 to 25

    private static void type() {
        ranges("type", new PortBench(), 0, 127, (x, c) -> x.type(c));
        PortBench every = new PortBench();
        for (int c = 0; c < 128; c++) {
            due("type " + c, every.type(c), 1);
            due("clear", every.clear(), 1);
        }
        PortBench x = new PortBench();
        for (int i = 1; i <= 120; i++) {
            due("type", x.type(' '), i);
        }
        refused("byte 121", x, FULL, () -> x.type(' '));
        refused("byte 121", x, FULL, () -> x.type(127));
        refused("byte 121, a wrong one", x, BAD, () -> x.type(-1));
        due("clear", x.clear(), 120);
        due("type", x.type(' '), 1);
    }

    private static void clear() {
        PortBench x = new PortBench();
        due("empty", x.clear(), 0);
        x.type(0);
        due("one byte", x.clear(), 1);
        due("empty again", x.clear(), 0);
        typed(x, "l;".repeat(60));
        long before = x.digest();
        due("120 bytes", x.clear(), 120);
        due("bytes", x.count(5), 0);
        for (int i = 1; i <= 120; i++) {
            due("type", x.type(' '), i);
        }
        due("all but the text is as before", x.digest() - before, 0);
        due("what was cleared is gone", x.does(), -130);
    }

    private static void does() {
        PortBench x = new PortBench();
        due("one ORDER", done(x, "l;"), 1);
        due("sixty ORDERS", done(x, "l;".repeat(60)), 60);
        due("THE TEXT stays", x.count(5), 120);
        due("sixty again", x.does(), 60);
        due("one STATE for all", x.count(6), 3);
        due("THE TEXT stays", x.clear(), 120);
        PortBench y = new PortBench();
        typed(y, "e0 1 0;e0 2 0;b0 0 0 0 0 0 0 0;e0 3 0;");
        due("does", y.does(), 4);
        due("one STATE for all", y.count(6), 1);
        due("back of all", y.back(), 0);
        due("error", y.error(0), 0);
        due("boxes", y.count(0), 0);
        // What was read of a text is forgotten when it is read anew.
        PortBench again = new PortBench();
        typed(again, "b0 0 1 0 1 0 0 0;".repeat(7));
        for (int i = 0; i < 20; i++) {
            due("seven BOXES", again.does(), 7);
            due("back", again.back(), 0);
        }
        // Six times done with one STATE each: the first of them is lost.
        PortBench z = new PortBench();
        for (int i = 1; i <= 6; i++) {
            typed(z, "e0 " + i + " 0;l;l;");
            due("does", z.does(), 3);
            due("states", z.count(6), Math.min(i, 5));
        }
        for (int i = 5; i >= 1; i--) {
            due("back", z.back(), i - 1);
            due("error", z.error(0), n(i, 0));
        }
        refused("back", z, NO, z::back);
    }

    private static void doesFault() {
        PortBench x = benchWith(2);
        kept("FAULT 0, empty", x, x::does, -10);
        typed(x, "?");
        kept("FAULT 0", x, x::does, -10);
        typed(x, "l;".repeat(59) + "l?");
        kept("FAULT 119", x, x::does, -129);
        typed(x, "l;".repeat(59) + "l ");
        kept("FAULT 120", x, x::does, -130);
        due("no S", x.count(6), 2);
    }

    private static void doesOrder() {
        PortBench x = benchWith(2);
        typed(x, "r0;l;");
        kept("ORDER 0", x, x::does, -1000);
        typed(x, "l;r2;");
        kept("ORDER 1", x, x::does, -1001);
        typed(x, "l;".repeat(58) + "r2;");
        kept("ORDER 58", x, x::does, -1058);
        due("nothing is learnt", x.count(1), 0);
        due("no S", x.count(6), 2);
        // Every number's edge as an ORDER.
        PortBench y = benchWith(2);
        y.learns();
        due("r 1 of 2", done(y, "r1;"), 1);
        due("r 3 of 3", done(y, "r3;"), -1000);
        due("c 2 of 3", done(y, "c2 2;"), 1);
        due("c 4 of 4", done(y, "c4 0;"), -1000);
        due("c 4 of 4", done(y, "c0 4;"), -1000);
        due("e 11", done(y, "e11 0 0;"), 1);
        due("e 12", done(y, "e12 0 0;"), -1000);
    }

    private static void back() {
        PortBench x = new PortBench();
        refused("none", x, NO, x::back);
        x.box();
        due("one", x.back(), 0);
        refused("none", x, NO, x::back);
        for (int i = 0; i < 5; i++) {
            x.box();
        }
        for (int i = 4; i >= 0; i--) {
            due("back", x.back(), i);
            due("boxes", x.count(0), i);
        }
        refused("none of five", x, NO, x::back);
        for (int i = 0; i < 6; i++) {
            x.box();
        }
        for (int i = 4; i >= 0; i--) {
            due("back", x.back(), i);
            due("boxes", x.count(0), i + 1);
        }
        refused("none of six", x, NO, x::back);
        due("boxes", x.count(0), 1);
    }

    private static void count() {
        ranges("count", benchWith(1), 0, 6, (x, what) -> x.count(what));
        PortBench x = benchWith(3);
        x.learns();
        typed(x, "1234567");
        for (int i = 0; i < 4; i++) {
            x.of(3, 0);
        }
        x.form(0, 2, 0);
        int[] want = {3, 1, 4, 1, 0, 7, 4};
        for (int what = 0; what < 7; what++) {
            int at = what;
            kept("count(" + what + ")", x, () -> x.count(at), want[what]);
        }
    }

    private static void countsAtTheirEnds() {
        PortBench x = benchWith(8);
        due("boxes", x.count(0), 8);
        due("states", x.count(6), 5);
        due("learnt", x.count(1), 0);
        x.learns();
        x.learns();
        due("learnt twice", x.count(1), 1);
        typed(x, "l".repeat(120));
        due("bytes", x.count(5), 120);
        IntSupplier[] more = {x::box, () -> x.type('l'), () -> x.turns(0)};
        for (int i = 0; i < more.length; i++) {
            due("more", more[i].getAsInt(), FULL);
            due("FULL", x.count(4), i + 1);
        }
        due("boxes", x.count(0), 8);
        due("bytes", x.count(5), 120);
        for (int i = 0; i < 8; i++) {
            x.drops(0);
        }
        due("boxes", x.count(0), 0);
        x.clear();
        due("bytes", x.count(5), 0);
    }

    private static void digest() {
        // Written out once by the document: 2693, seven counts, twelve errors, twelve times NONE.
        PortBench x = new PortBench();
        long h = 2693;
        for (int i = 0; i < 7; i++) {
            h = 31 * h;
        }
        for (int k = 0; k < 12; k++) {
            h = 31 * h + (k % 3 == 2 ? 10007 : 0);
        }
        for (int k = 0; k < 12; k++) {
            h = 31 * h - 1;
        }
        due("of a new object, less what is due", x.digest() - h, 0);
        due("again", x.digest() - h, 0);
        digestOfAFullBench();
        digestOfTests();
    }

    private static void digestOfAFullBench() {
        PortBench y = marked();
        y.learns();
        y.of(8, 0);
        y.form(0, 1, 4);
        y.told(7, 4);
        typed(y, "l;x");
        long h = 2693;
        for (int v : new int[] {8, 1, 3, 0, 0, 3, 5}) {
            h = 31 * h + v;
        }
        for (int b = 0; b < 8; b++) {
            for (int k = 0; k < 4; k++) {
                h = 31 * h + n(b, k);
            }
            // det is 2; s12 is not s21, s11 not s22; each loses something; each is alike to itself alone.
            for (int v : new int[] {n(2, 0), 0, 0, 0, 0, b}) {
                h = 31 * h + v;
            }
        }
        for (int k = 0; k < 24; k++) {
            h = 31 * h + (k % 3 == 2 ? 10007 : 0);
        }
        due("of eight boxes, less what is due", y.digest() - h, 0);
        kept("no getter becomes other by it", y, () -> y.count(6), 5);
    }

    /** Two throughs: each test holds, the second is like the first; NO and FULL counted, too. */
    private static void digestOfTests() {
        PortBench x = benchWith(2);
        x.form(0, 2, 0);
        typed(x, " ".repeat(120));
        x.type(' ');
        long h = 2693;
        for (int v : new int[] {2, 0, 0, 1, 1, 120, 2}) {
            h = 31 * h + v;
        }
        for (int b = 0; b < 2; b++) {
            for (int v : new int[] {0, THROUGH, THROUGH, 0, n(TOP, 0), 1, 1, 1, 1, 0}) {
                h = 31 * h + v;
            }
        }
        for (int k = 0; k < 12; k++) {
            h = 31 * h + (k % 3 == 2 ? 10007 : 0);
        }
        for (int k = 0; k < 12; k++) {
            h = 31 * h + NONE;
        }
        due("of two throughs, less what is due", x.digest() - h, 0);
    }
}
