/** One method for each promise of the document: ordinary inputs, edges, wrong inputs. */
public final class PromiseTest extends Held {
    public static void main(String[] args) {
        about("promise 1"); aNewObject();
        about("promise 2"); box();
        about("promise 3"); sets();
        about("promise 4"); errs();
        about("promise 5"); drops();
        about("promise 6"); of();
        about("promise 7"); error();
        about("promise 8"); told(); toldNothing();
        about("promise 9"); learns(); learnsNothing();
        about("promise 10"); learnt();
        about("promise 11"); reads(); readsNothing();
        about("promise 12"); chains(); chainsNothing();
        about("promise 13"); peels(); peelsNothing();
        about("promise 14"); turns();
        about("promise 15"); form(); formNone();
        about("promise 16"); det();
        about("promise 17"); ends();
        about("promise 18"); test();
        about("promise 19"); like();
        about("promise 20"); type();
        about("promise 21"); clear();
        about("promise 22"); doesOrders(); doesFaults(); doesRefusedOrders(); doesOneState();
        about("promise 23"); back();
        about("promise 24"); count();
        about("promise 25"); digest();
        end("all promises hold");
    }

    // ---- the promises

    private static void aNewObject() {
        PortBench x = new PortBench();
        for (int what = 0; what < 7; what++) {
            due("count(" + what + ")", x.count(what), 0);
        }
        for (int k = 0; k < 12; k++) {
            due("error(" + k + ")", x.error(k), k % 3 == 2 ? n(1, 0) : 0);
            due("learnt(" + k + ")", x.learnt(k), -1);
        }
        x.errs(3, 5, 5);
        x.box();
        due("another one's error", new PortBench().error(3), 0);
        due("another one's boxes", new PortBench().count(0), 0);
    }

    private static void box() {
        PortBench x = new PortBench();
        for (int b = 0; b < 8; b++) {
            due("box()", x.box(), b);
            boxIs("new box", x, b, 0, n(1, 0), n(1, 0), 0);
            due("states", x.count(6), Math.min(b + 1, 5));
        }
        refused("box() of a full bench", x, FULL, x::box);
        x.sets(7, 0, 1, 1);
        x.drops(7);
        due("box() after drops", x.box(), 7);
        boxIs("a box where another was", x, 7, 0, n(1, 0), n(1, 0), 0);
    }

    private static void sets() {
        PortBench x = benchOf(0, 0, 1, 0, 1, 0, 0, 0, 0, 0, 1, 0, 1, 0, 0, 0);
        for (int k = 0; k < 4; k++) {
            int was = x.of(1, k);
            due("sets", x.sets(1, k, TOP - k, k), was);
            due("sets again", x.sets(1, k, k, TOP), n(TOP - k, k));
            due("what was set", x.of(1, k), n(k, TOP));
        }
        boxIs("the other box", x, 0, 0, n(1, 0), n(1, 0), 0);
        PortBench y = benchOf(1, 2, 3, 4, 5, 6, 7, 8);
        due("states", y.count(6), 5);
        for (int w : WRONG_PARTS) {
            refused("sets x", y, BAD, () -> y.sets(0, 0, w, 0));
            refused("sets y", y, BAD, () -> y.sets(0, 0, 0, w));
            refused("sets b", y, BAD, () -> y.sets(w, 0, 0, 0));
            refused("sets k", y, BAD, () -> y.sets(0, w, 0, 0));
        }
        refused("sets box 1 of 1", y, BAD, () -> y.sets(1, 0, 0, 0));
        refused("sets number 4", y, BAD, () -> y.sets(0, 4, 0, 0));
    }

    private static void errs() {
        PortBench x = new PortBench();
        for (int k = 0; k < 12; k++) {
            due("errs", x.errs(k, k, TOP - k), k % 3 == 2 ? n(1, 0) : 0);
            due("errs, states", x.count(6), Math.min(k + 1, 5));
        }
        for (int k = 0; k < 12; k++) {
            due("error", x.error(k), n(k, TOP - k));
            due("errs again", x.errs(k, TOP, TOP), n(k, TOP - k));
        }
        due("the greatest number", x.error(11), 100140048);
        for (int w : WRONG_PARTS) {
            refused("errs k", x, BAD, () -> x.errs(w, 0, 0));
            refused("errs x", x, BAD, () -> x.errs(0, w, 0));
            refused("errs y", x, BAD, () -> x.errs(0, 0, w));
        }
        refused("errs 12", x, BAD, () -> x.errs(12, 0, 0));
    }

    private static void drops() {
        PortBench x = benchOf(1, 0, 0, 0, 0, 0, 0, 0, 2, 0, 0, 0, 0, 0, 0, 0, 3, 0, 0, 0, 0, 0, 0, 0);
        refused("drops -1", x, BAD, () -> x.drops(-1));
        refused("drops 3 of 3", x, BAD, () -> x.drops(3));
        refused("drops the most", x, BAD, () -> x.drops(Integer.MAX_VALUE));
        due("drops the middle", x.drops(1), 2);
        boxIs("box 0", x, 0, n(1, 0), 0, 0, 0);
        boxIs("box 1", x, 1, n(3, 0), 0, 0, 0);
        refused("of the box that went", x, BAD, () -> x.of(2, 0));
        due("drops the first", x.drops(0), 1);
        boxIs("box 0", x, 0, n(3, 0), 0, 0, 0);
        due("drops the last", x.drops(0), 0);
        refused("drops none", x, BAD, () -> x.drops(0));
        due("back", x.back(), 4);
        boxIs("box 0 again", x, 0, n(3, 0), 0, 0, 0);
        PortBench y = benchWith(8);
        due("drops of a full bench", y.drops(7), 7);
    }

    private static void of() {
        PortBench x = benchOf(1, 2, 3, 4, 5, 6, 7, 8);
        for (int k = 0; k < 4; k++) {
            int at = k;
            kept("of", x, () -> x.of(0, at), n(2 * k + 1, 2 * k + 2));
        }
        refused("of number 4", x, BAD, () -> x.of(0, 4));
        refused("of number -1", x, BAD, () -> x.of(0, -1));
        refused("of box 1 of 1", x, BAD, () -> x.of(1, 0));
        refused("of box -1", x, BAD, () -> x.of(-1, 0));
        refused("of the most", x, BAD, () -> x.of(Integer.MAX_VALUE, Integer.MAX_VALUE));
        refused("of the least", x, BAD, () -> x.of(Integer.MIN_VALUE, Integer.MIN_VALUE));
    }

    private static void error() {
        PortBench x = new PortBench();
        x.errs(11, 3, 9);
        kept("error", x, () -> x.error(11), n(3, 9));
        kept("error", x, () -> x.error(8), n(1, 0));
        refused("error 12", x, BAD, () -> x.error(12));
        refused("error -1", x, BAD, () -> x.error(-1));
        refused("error, the most", x, BAD, () -> x.error(Integer.MAX_VALUE));
    }

    private static void told() {
        PortBench x = benchOf(3, 0, 5, 0, 7, 0, 2, 0);
        kept("told by the bench as it is", x, () -> x.told(0, 0), n(3, 0));
        kept("told m12", x, () -> x.told(0, 1), n(5, 0));
        kept("told m21", x, () -> x.told(0, 2), n(7, 0));
        kept("told m22", x, () -> x.told(0, 3), n(2, 0));
        // det is 6 - 35 = -29.
        // e1 = 1, e4 = 2: d = 1 - 3 - 4 - 58 = -64; e10 = 1, e7 = 1: f = 1 - 3 - 2 - 29 = -33.
        int[] e = {10, 1, 64, 20, 2, 128, 30, 1, 33, 40, 1, 66};
        for (int k = 0; k < 12; k++) {
            x.errs(k, e[k], 0);
        }
        due("m11: 10 - (3 + 58)", x.told(0, 0), n(10007 - 51, 0));
        due("m12: 40 - 2 * 5", x.told(0, 1), n(30, 0));
        due("m21: 20 - 2 * 7", x.told(0, 2), n(6, 0));
        due("m22: 30 - (2 + 29)", x.told(0, 3), n(TOP, 0));
    }

    private static void toldNothing() {
        PortBench x = benchOf(1, 0, 0, 0, 0, 0, 0, 0);
        x.errs(1, 1, 0);
        for (int k = 0; k < 4; k++) {
            int at = k;
            refused("told, d is 0", x, NO, () -> x.told(0, at));
        }
        x.errs(1, 0, 0);
        x.errs(10, 1, 0);
        for (int k = 0; k < 4; k++) {
            int at = k;
            refused("told, f is 0", x, NO, () -> x.told(0, at));
        }
        refused("told k 4, though f is 0", x, BAD, () -> x.told(0, 4));
        refused("told k -1", x, BAD, () -> x.told(0, -1));
        refused("told box 1 of 1", x, BAD, () -> x.told(1, 0));
        refused("told box -1", x, BAD, () -> x.told(-1, 0));
    }

    private static void learns() {
        PortBench x = new PortBench();
        due("learns of a new bench", x.learns(), 12);
        due("states", x.count(6), 1);
        for (int k = 0; k < 12; k++) {
            due("learnt", x.learnt(k), x.error(k));
            x.errs(k, 17 * k + 2, 9000 - 31 * k);
        }
        due("learnt stays till it is learnt anew", x.learnt(2), n(1, 0));
        due("learns", x.learns(), 12);
        for (int k = 0; k < 12; k++) {
            due("learnt", x.learnt(k), n(17 * k + 2, 9000 - 31 * k));
        }
        due("learns again", x.learns(), 12);
        due("back", x.back(), 4);
        due("e5 may be 0", x.errs(5, 0, 0), n(17 * 5 + 2, 9000 - 31 * 5));
        due("learns with e5 = 0", x.learns(), 12);
        due("g5", x.learnt(5), 0);
    }

    private static void learnsNothing() {
        // k, x: the error that keeps something from being told, or makes a step divide by 0.
        int[][] bars = {{1, 1}, {1, TOP}, {4, 1}, {4, TOP}, {7, 1}, {7, TOP}, {10, 1}, {10, TOP}, {2, 0}, {8, 0}};
        for (int[] bar : bars) {
            PortBench x = new PortBench();
            x.errs(0, 3, 3);
            x.learns();
            x.errs(0, 4, 4);
            x.errs(bar[0], bar[1], 0);
            refused("learns with e" + bar[0] + " = " + bar[1], x, NO, x::learns);
            due("what was learnt stays", x.learnt(0), n(3, 3));
            due("what was learnt stays", x.learnt(2), n(1, 0));
        }
        PortBench y = new PortBench();
        y.errs(1, 2, 0);
        y.errs(4, 5004, 0);
        refused("learns, e1 * e4 = 1: the through is not told", y, NO, y::learns);
        due("nothing is learnt", y.learnt(0), -1);
        due("nothing is learnt", y.count(1), 0);
        PortBench z = new PortBench();
        z.errs(7, 2, 0);
        z.errs(10, 5004, 0);
        refused("learns, e7 * e10 = 1: the through is not told", z, NO, z::learns);
    }

    private static void learnt() {
        PortBench x = new PortBench();
        kept("learnt, nothing yet", x, () -> x.learnt(0), -1);
        refused("learnt 12", x, BAD, () -> x.learnt(12));
        refused("learnt -1", x, BAD, () -> x.learnt(-1));
        x.errs(11, 7, 8);
        x.learns();
        kept("learnt", x, () -> x.learnt(11), n(7, 8));
        refused("learnt 12", x, BAD, () -> x.learnt(12));
        x.back();
        due("learnt, gone back", x.learnt(11), -1);
        due("something learnt, gone back", x.count(1), 0);
    }

    private static void reads() {
        PortBench x = benchOf(3, 4, 5, 0, 7, 1, 2, TOP);
        for (int k = 0; k < 12; k++) {
            x.errs(k, 40 + 3 * k, 9 * k + 1);
        }
        x.learns();
        due("reads", x.reads(0), 1);
        boxIs("what was read", x, 1, n(3, 4), n(5, 0), n(7, 1), n(2, TOP));
        due("states", x.count(6), 5);
        // The bench is plain again while what is learnt adds 1 to m11 and doubles m21.
        PortBench y = benchOf(3, 0, 5, 0, 7, 0, 2, 0);
        y.errs(0, 1, 0);
        y.errs(5, 2, 0);
        y.learns();
        y.errs(0, 0, 0);
        y.errs(5, 1, 0);
        due("reads", y.reads(0), 1);
        boxIs("read with other errors", y, 1, n(2, 0), n(5, 0), n(7 * 5004 % 10007, 0), n(2, 0));
    }

    private static void readsNothing() {
        PortBench x = benchOf(3, 0, 5, 0, 7, 0, 2, 0);
        refused("reads, nothing learnt", x, NO, () -> x.reads(0));
        refused("reads box 1 of 1, nothing learnt", x, BAD, () -> x.reads(1));
        refused("reads box -1", x, BAD, () -> x.reads(-1));
        for (int k : new int[] {5, 11}) {
            PortBench y = benchOf(3, 0, 5, 0, 7, 0, 2, 0);
            y.errs(k, 0, 0);
            y.learns();
            y.errs(k, 1, 0);
            refused("reads, g" + k + " is 0", y, NO, () -> y.reads(0));
        }
        // Learnt g1 = 2; then m11 = 5003 is told, and 1 + 5003 * 2 = 0, s12 being 0.
        PortBench q = benchOf(5003, 0, 0, 0, 1, 0, 0, 0);
        q.errs(1, 2, 0);
        q.learns();
        q.errs(1, 0, 0);
        refused("reads, q is 0", q, NO, () -> q.reads(0));
        PortBench t = benchOf(1, 0, 0, 0, 0, 0, 0, 0);
        t.learns();
        t.errs(10, 1, 0);
        refused("reads, nothing is told", t, NO, () -> t.reads(0));
        PortBench f = benchWith(8);
        refused("reads, full, nothing learnt", f, NO, () -> f.reads(0));
        f.learns();
        refused("reads, full", f, FULL, () -> f.reads(0));
        refused("reads, full, box 8", f, BAD, () -> f.reads(8));
    }

    private static void chains() {
        // 1 - (s22 of a) * (s11 of b) = -5.
        PortBench x = benchOf(1, 0, 2, 0, 3, 0, 2, 0, 3, 0, 1, 0, 1, 0, 2, 0);
        int fifth = 10007 - inverse(5);
        due("chains", x.chains(0, 1), 2);
        boxIs("chain", x, 2, n((1 + 18 * fifth) % 10007, 0), n(2 * fifth % 10007, 0),
            n(3 * fifth % 10007, 0), n((2 + 2 * fifth) % 10007, 0));
        due("chains of one with itself", x.chains(0, 0), 3);
        // 1 - 2 * 1 = -1.
        boxIs("chain with itself", x, 3, n(1 + 10007 - 6, 0), n(10007 - 4, 0), n(10007 - 9, 0), n(2 + 10007 - 12, 0));
        due("states", x.count(6), 5);
    }

    private static void chainsNothing() {
        PortBench x = benchOf(0, 0, 1, 0, 1, 0, 1, 0, 1, 0, 1, 0, 1, 0, 0, 0, 0, 0, 1, 0, 0, 0, 0, 0);
        refused("chains, s22 * s11 = 1", x, NO, () -> x.chains(0, 1));
        due("chains the other way", x.chains(1, 0), 3);
        refused("chains, s21 of a is 0", x, NO, () -> x.chains(2, 0));
        refused("chains, s21 of b is 0", x, NO, () -> x.chains(0, 2));
        refused("chains a 4 of 4", x, BAD, () -> x.chains(4, 0));
        refused("chains b 4 of 4", x, BAD, () -> x.chains(0, 4));
        refused("chains a -1", x, BAD, () -> x.chains(-1, 2));
        refused("chains b -1", x, BAD, () -> x.chains(2, -1));
        PortBench f = benchWith(8);
        refused("chains, full", f, FULL, () -> f.chains(0, 7));
        f.sets(0, 2, 0, 0);
        refused("chains, full, s21 is 0", f, NO, () -> f.chains(0, 7));
        refused("chains, full, box 8", f, BAD, () -> f.chains(0, 8));
    }

    private static void peels() {
        PortBench x = benchOf(1, 5, 2, 0, 3, 0, 2, 0, 3, 0, 1, 7, 1, 0, 2, 0, 8, 0, 0, 9, 6, 0, 1, 4);
        due("a, m", x.chains(0, 1), 3);
        due("a, m, b", x.chains(3, 2), 4);
        due("peels", x.peels(4, 0, 2), 5);
        due("what is peeled", x.like(5), 1);
        due("peels of one by itself", x.peels(0, 0, 0), 6);
        due("states", x.count(6), 5);
        // s12 of m may be 0.
        PortBench y = benchOf(0, 0, 0, 0, 1, 0, 0, 0, 0, 0, 1, 0, 1, 0, 0, 0);
        due("peels by throughs", y.peels(0, 1, 1), 2);
        due("peels by throughs", y.like(2), 0);
    }

    private static void peelsNothing() {
        PortBench x = benchOf(0, 0, 1, 0, 1, 0, 0, 0, 0, 0, 0, 0, 1, 0, 0, 0, 0, 0, 1, 0, 0, 0, 0, 0);
        refused("peels, a has no inverse", x, NO, () -> x.peels(0, 1, 0));
        refused("peels, b has no inverse", x, NO, () -> x.peels(0, 0, 1));
        refused("peels, m has no form", x, NO, () -> x.peels(2, 0, 0));
        refused("peels, a has no form", x, NO, () -> x.peels(0, 2, 0));
        refused("peels, b has no form", x, NO, () -> x.peels(0, 0, 2));
        refused("peels m 3 of 3", x, BAD, () -> x.peels(3, 0, 0));
        refused("peels a 3 of 3", x, BAD, () -> x.peels(0, 3, 0));
        refused("peels b 3 of 3", x, BAD, () -> x.peels(2, 2, 3));
        refused("peels m -1", x, BAD, () -> x.peels(-1, 0, 0));
        refused("peels a -1", x, BAD, () -> x.peels(0, -1, 0));
        refused("peels b -1", x, BAD, () -> x.peels(0, 0, -1));
        // The inverse of a's form is (1 0) (1 1), the form of m (1 -1) (0 1): their product's t3 is 0.
        PortBench z = benchOf(TOP, 0, 1, 0, 1, 0, 0, 0, 0, 0, 1, 0, 1, 0, 1, 0, 0, 0, 1, 0, 1, 0, 0, 0);
        refused("peels, t3 of the product is 0", z, NO, () -> z.peels(0, 1, 2));
        PortBench f = benchWith(8);
        refused("peels, full", f, FULL, () -> f.peels(0, 1, 2));
        f.sets(1, 1, 0, 0);
        refused("peels, full, no inverse", f, NO, () -> f.peels(0, 1, 2));
        refused("peels, full, box 8", f, BAD, () -> f.peels(8, 1, 2));
    }

    private static void turns() {
        PortBench x = benchOf(1, 2, 3, 4, 5, 6, 7, 8);
        due("turns", x.turns(0), 1);
        boxIs("turned about", x, 1, n(7, 8), n(5, 6), n(3, 4), n(1, 2));
        boxIs("the box itself", x, 0, n(1, 2), n(3, 4), n(5, 6), n(7, 8));
        due("turns again", x.turns(1), 2);
        due("turned twice", x.like(2), 0);
        due("states", x.count(6), 5);
        refused("turns 3 of 3", x, BAD, () -> x.turns(3));
        refused("turns -1", x, BAD, () -> x.turns(-1));
        PortBench f = benchWith(8);
        refused("turns, full", f, FULL, () -> f.turns(0));
        refused("turns, full, box 8", f, BAD, () -> f.turns(8));
    }

    private static void form() {
        PortBench x = benchOf(2, 0, 3, 0, 1, 0, 4, 0);
        // det = 8 - 3 = 5, s21 = 1.
        int[] first = {n(10007 - 5, 0), n(2, 0), n(10007 - 4, 0), n(1, 0)};
        for (int k = 0; k < 4; k++) {
            int at = k;
            kept("form 1", x, () -> x.form(0, 1, at), first[k]);
        }
        // n = (-1) * (-3) - 3 = 0: no form 2; with s12 = 2 it is 1.
        refused("form 2, n is 0", x, NO, () -> x.form(0, 2, 0));
        refused("form 3, n is 0", x, NO, () -> x.form(0, 3, 0));
        x.sets(0, 1, 2, 0);
        int[] second = {n(10007 - 7, 0), n(4, 0), n(2, 0), n(10007 - 3, 0)};
        for (int k = 0; k < 4; k++) {
            int at = k;
            kept("form 2", x, () -> x.form(0, 2, at), second[k]);
        }
        // The inverse's n = 21 - 8 = 13.
        int part = inverse(13);
        int[] third = {10007 - 3, 10007 - 4, 10007 - 2, 10007 - 7};
        for (int k = 0; k < 4; k++) {
            int at = k;
            int whole = (int) ((long) third[k] * part % 10007);
            kept("form 3", x, () -> x.form(0, 3, at), n(whole, 0));
        }
    }

    private static void formNone() {
        PortBench x = benchOf(0, 0, 1, 0, 0, 0, 0, 0, TOP, 0, 0, 0, 1, 0, 0, 0);
        for (int k = 0; k < 4; k++) {
            int at = k;
            refused("form 1, s21 is 0", x, NO, () -> x.form(0, 1, at));
            refused("form 3, form 2 has no inverse", x, NO, () -> x.form(1, 3, at));
        }
        due("form 2 without inverse", x.form(1, 2, 0), 0);
        refused("form 0", x, BAD, () -> x.form(0, 0, 0));
        refused("form 4", x, BAD, () -> x.form(0, 4, 0));
        refused("form -1", x, BAD, () -> x.form(0, -1, 0));
        refused("form k 4", x, BAD, () -> x.form(0, 1, 4));
        refused("form k -1", x, BAD, () -> x.form(0, 1, -1));
        refused("form b 2 of 2", x, BAD, () -> x.form(2, 1, 0));
        refused("form b -1", x, BAD, () -> x.form(-1, 1, 0));
    }

    private static void det() {
        PortBench x = benchOf(1, 2, 3, 4, 5, 6, 7, 8);
        // (1 + 2i)(7 + 8i) = -9 + 22i; (3 + 4i)(5 + 6i) = -9 + 38i.
        kept("det", x, () -> x.det(0), n(0, 10007 - 16));
        refused("det 1 of 1", x, BAD, () -> x.det(1));
        refused("det -1", x, BAD, () -> x.det(-1));
        PortBench y = benchOf(TOP, TOP, TOP, TOP, 0, 1, TOP, TOP);
        // (1 + i)(1 + i) = 2i; (-1 - i) * i = 1 - i.
        due("det of great parts", y.det(0), n(TOP, 3));
    }

    private static void ends() {
        PortBench x = benchOf(3, 0, 2, 0, 5, 0, 4, 0);
        kept("ends by nothing", x, () -> x.ends(0, 0, 0, 0), n(3, 0));
        kept("ends by nothing", x, () -> x.ends(0, 1, 0, 0), n(4, 0));
        int third = 10007 - inverse(3);
        int half = 10007 - inverse(2);
        kept("ends side 0", x, () -> x.ends(0, 0, 1, 0), n((3 + 10 * third) % 10007, 0));
        kept("ends side 1", x, () -> x.ends(0, 1, 1, 0), n((4 + 10 * half) % 10007, 0));
        int quarter = inverse(4);
        refused("ends, 1 - s22 * z is 0", x, NO, () -> x.ends(0, 0, quarter, 0));
        refused("ends, 1 - s11 * z is 0", x, NO, () -> x.ends(0, 1, inverse(3), 0));
        refused("ends side 2", x, BAD, () -> x.ends(0, 2, quarter, 0));
        refused("ends side -1", x, BAD, () -> x.ends(0, -1, 0, 0));
        refused("ends b 1 of 1", x, BAD, () -> x.ends(1, 0, 0, 0));
        refused("ends b -1", x, BAD, () -> x.ends(-1, 0, 0, 0));
        for (int w : WRONG_PARTS) {
            refused("ends x", x, BAD, () -> x.ends(0, 0, w, 0));
            refused("ends y", x, BAD, () -> x.ends(0, 0, 0, w));
        }
        // NO, though s12 * s21 * z is 0.
        x.sets(0, 1, 0, 0);
        refused("ends, 0 / 0", x, NO, () -> x.ends(0, 0, quarter, 0));
    }

    private static void test() {
        PortBench x = benchOf(1, 1, 2, 3, 2, 3, 1, 1, 1, 1, 2, 3, 2, 4, 1, 2, 0, 0, 0, 1, 1, 0, 0, 0);
        int[][] want = {{1, 1, 0, 0}, {0, 0, 0, 0}, {0, 1, 1, 1}};
        for (int b = 0; b < 3; b++) {
            for (int what = 0; what < 4; what++) {
                int box = b;
                int at = what;
                kept("test(" + b + ", " + what + ")", x, () -> x.test(box, at), want[b][what]);
            }
        }
        refused("test 4", x, BAD, () -> x.test(0, 4));
        refused("test -1", x, BAD, () -> x.test(0, -1));
        refused("test b 3 of 3", x, BAD, () -> x.test(3, 0));
        refused("test b -1", x, BAD, () -> x.test(-1, 0));
        // One equation at a time does not hold; a row (c, w) with c * c + w * w = 1 helps.
        PortBench y = benchOf(1, 0, 0, 0, 0, 0, 2, 0, 2, 0, 0, 0, 0, 0, 1, 0, 1, 0, 1, 0, 0, 0, 0, 0,
            0, 0, 0, 0, 0, 0, 3, 0);
        for (int b = 0; b < 4; b++) {
            due("loses something", y.test(b, 3), 0);
        }
        due("s11 alone is 0", y.test(3, 2), 0);
        due("s22 alone is 0", y.test(2, 2), 0);
        y.sets(0, 3, 0, TOP);
        due("loses nothing", y.test(0, 3), 1);
    }

    private static void like() {
        PortBench x = benchOf(1, 0, 2, 0, 3, 0, 4, 0, 0, 0, 2, 0, 3, 0, 4, 0, 1, 0, 2, 0, 3, 0, 4, 0,
            1, 0, 0, 0, 3, 0, 4, 0, 1, 0, 2, 0, 0, 0, 4, 0, 1, 0, 2, 0, 3, 0, 0, 0, 1, 0, 2, 0, 3, 0, 4, 0);
        int[] want = {0, 1, 0, 3, 4, 5, 0};
        for (int b = 0; b < 7; b++) {
            int box = b;
            kept("like(" + b + ")", x, () -> x.like(box), want[b]);
        }
        refused("like 7 of 7", x, BAD, () -> x.like(7));
        refused("like -1", x, BAD, () -> x.like(-1));
        x.drops(0);
        due("like, the first gone", x.like(5), 1);
        due("like itself", x.like(1), 1);
    }

    private static void type() {
        PortBench x = new PortBench();
        refused("type -1", x, BAD, () -> x.type(-1));
        refused("type 128", x, BAD, () -> x.type(128));
        refused("type the least", x, BAD, () -> x.type(Integer.MIN_VALUE));
        for (int i = 0; i < 120; i++) {
            due("type", x.type(i == 0 ? 127 : i), i + 1);
        }
        refused("type of a full text", x, FULL, () -> x.type(0));
        refused("type 128 of a full text", x, BAD, () -> x.type(128));
        due("bytes", x.count(5), 120);
        due("type leaves no state", x.count(6), 0);
        x.clear();
        due("type after clear", x.type(0), 1);
    }

    private static void clear() {
        PortBench x = new PortBench();
        due("clear of nothing", x.clear(), 0);
        typed(x, "abc");
        due("clear", x.clear(), 3);
        due("bytes", x.count(5), 0);
        due("clear leaves no state", x.count(6), 0);
        due("clear again", x.clear(), 0);
        typed(x, "l;");
        x.box();
        x.back();
        due("back leaves the text", x.count(5), 2);
    }

    private static void doesOrders() {
        PortBench x = new PortBench();
        String orders = " b 1 2 00003 4 5 6 7 10006;e11 3 4;l;r0 ; c 0 1;b0 0 1 0 1 0 0 0; ";
        typed(x, orders);
        due("does", x.does(), 6);
        due("boxes", x.count(0), 4);
        boxIs("box 0", x, 0, n(1, 2), n(3, 4), n(5, 6), n(7, TOP));
        due("box 1 is as read", x.like(1), 0);
        boxIs("box 3", x, 3, 0, n(1, 0), n(1, 0), 0);
        due("error", x.error(11), n(3, 4));
        due("learnt", x.learnt(11), n(3, 4));
        due("one state", x.count(6), 1);
        due("the text stays", x.count(5), orders.length());
        PortBench y = benchOf(1, 2, 3, 4, 5, 6, 7, TOP);
        y.chains(0, 0);
        boxIs("box 2 is the chain", x, 2, y.of(1, 0), y.of(1, 1), y.of(1, 2), y.of(1, 3));
        PortBench z = new PortBench();
        typed(z, "l;".repeat(60));
        due("does sixty orders", z.does(), 60);
        due("one state", z.count(6), 1);
        due("does again", z.does(), 60);
        due("two states", z.count(6), 2);
        typed(z, "b0 0 0 0 0 0 0 0;".repeat(7));
        due("does seven boxes", z.does(), 7);
        due("boxes", z.count(0), 7);
    }

    private static void doesFaults() {
        fault("", 0);
        fault("   ", 3);
        fault("x", 0);
        fault("  x", 2);
        fault(";", 0);
        fault("l;;", 2);
        fault("l", 1);
        fault("l ", 2);
        fault("l;l", 3);
        fault("l; l ;  r", 9);
        fault("l 1;", 2);
        fault("l1;", 1);
        fault("B", 0);
        fault("r;", 1);
        fault("r ;", 2);
        fault("r 1", 3);
        fault("r 12345", 7);
        fault("r 123456;", 7);
        fault("r 000000;", 7);
        fault("r 1 2;", 4);
        fault("r 12a;", 4);
        fault("r-1;", 1);
        fault("c 1;", 3);
        fault("c 1 2 3;", 6);
        fault("c 1,2;", 3);
        fault("c123456;", 6);
        fault("e 1 2;", 5);
        fault("e 1 2 3 4;", 8);
        fault("b 1 2 3 4 5 6 7;", 15);
        fault("b 1 2 3 4 5 6 7 8 9;", 18);
        fault("b 1 2 3 4 5 6 7 123456;", 21);
        fault("b 1 2 3 4 5 6 7 8", 17);
        fault("l;\t", 2);
        fault("l;" + (char) 0, 2);
        fault("b99999 2 3 4 5 6 7 8;x", 21);
        fault("r 9;l;l;?", 8);
        fault("l;".repeat(59) + "l ", 120);
    }

    private static void fault(String text, int place) {
        PortBench x = new PortBench();
        x.box();
        typed(x, text);
        long before = x.digest();
        due("does \"" + text + "\"", x.does(), -10 - place);
        due("what became other by \"" + text + "\"", x.digest() - before, 0);
    }

    private static void doesRefusedOrders() {
        ended("e12 0 0;", 0);
        ended("e0 10007 0;", 0);
        ended("e0 0 99999;", 0);
        ended("l;e0 1 1;b0 0 0 0 0 0 10007 0;l;", 2);
        ended("b10007 0 0 0 0 0 0 0;", 0);
        ended("b0 0 0 0 0 0 0 10007;", 0);
        ended("r0;", 0);
        ended("l;r1;", 1);
        ended("c0 1;", 0);
        ended("c1 0;", 0);
        ended("b0 0 0 0 0 0 0 0;l;r1;c0 1;l;", 3);
        ended("e1 1 0;l;", 1);
        ended("c0 0;".repeat(8) + "l;", 7);
        ended("l;" + "r0;".repeat(8) + "l;", 8);
        ended("b0 0 0 0 0 0 0 0;" + "c0 0;".repeat(6) + "b0 0 0 0 0 0 0 0;", 7);
    }

    private static void ended(String text, int order) {
        PortBench x = new PortBench();
        x.box();
        typed(x, text);
        long before = x.digest();
        due("does \"" + text + "\"", x.does(), -1000 - order);
        due("what became other by \"" + text + "\"", x.digest() - before, 0);
        due("back", x.back(), 0);
        due("boxes", x.count(0), 0);
    }

    private static void doesOneState() {
        PortBench x = new PortBench();
        x.errs(0, 1, 1);
        typed(x, "b1 0 0 0 0 0 0 0;e0 2 2;l;");
        due("does", x.does(), 3);
        due("states", x.count(6), 2);
        due("back", x.back(), 1);
        due("boxes", x.count(0), 0);
        due("error", x.error(0), n(1, 1));
        due("learnt", x.count(1), 0);
        due("bytes", x.count(5), 26);
        due("does again", x.does(), 3);
        due("boxes", x.count(0), 1);
    }

    private static void back() {
        PortBench x = new PortBench();
        refused("back, none", x, NO, x::back);
        for (int i = 1; i <= 7; i++) {
            x.errs(0, i, 0);
        }
        due("states", x.count(6), 5);
        for (int i = 6; i >= 2; i--) {
            due("back", x.back(), i - 2);
            due("error", x.error(0), n(i, 0));
        }
        refused("back, none left", x, NO, x::back);
        due("error", x.error(0), n(2, 0));
        // A call that makes nothing other leaves a state, too.
        x.errs(0, 2, 0);
        due("states", x.count(6), 1);
        x.box();
        due("back", x.back(), 1);
        x.errs(0, 9, 9);
        due("back", x.back(), 1);
        due("boxes", x.count(0), 0);
        due("error", x.error(0), n(2, 0));
        due("back", x.back(), 0);
        // How often refused does not go back.
        x.box();
        x.of(5, 5);
        x.back();
        due("BAD", x.count(2), 1);
        due("NO", x.count(3), 2);
    }

    private static void count() {
        PortBench x = new PortBench();
        refused("count 7", x, BAD, () -> x.count(7));
        refused("count -1", x, BAD, () -> x.count(-1));
        refused("count, the most", x, BAD, () -> x.count(Integer.MAX_VALUE));
        x.box();
        x.box();
        x.learns();
        typed(x, "l;");
        x.back();
        x.back();
        x.reads(0);
        x.back();
        x.back();
        x.box();
        x.learns();
        x.learns();
        for (int i = 0; i < 9; i++) {
            x.turns(0);
        }
        due("BAD", x.count(2), 3);
        due("boxes", x.count(0), 8);
        due("learnt", x.count(1), 1);
        due("NO", x.count(3), 2);
        due("FULL", x.count(4), 2);
        due("bytes", x.count(5), 2);
        due("states", x.count(6), 5);
    }

    private static void digest() {
        PortBench x = new PortBench();
        due("digest of a new bench", x.digest() - spelt(x), 0);
        x.box();
        x.turns(0);
        x.sets(1, 0, 5, 6);
        x.errs(3, 7, 8);
        x.of(9, 9);
        x.back();
        x.turns(0);
        typed(x, "l");
        x.does();
        due("digest of two boxes", x.digest() - spelt(x), 0);
        x.learns();
        due("digest with something learnt", x.digest() - spelt(x), 0);
        due("digest again", x.digest() - spelt(x), 0);
        due("digest leaves no state", x.count(6), 5);
    }

    private static long spelt(PortBench x) {
        long h = 2693;
        for (int what = 0; what < 7; what++) {
            h = 31 * h + x.count(what);
        }
        for (int b = 0; b < x.count(0); b++) {
            for (int k = 0; k < 4; k++) {
                h = 31 * h + x.of(b, k);
            }
            h = 31 * h + x.det(b);
            for (int what = 0; what < 4; what++) {
                h = 31 * h + x.test(b, what);
            }
            h = 31 * h + x.like(b);
        }
        for (int k = 0; k < 12; k++) {
            h = 31 * h + x.error(k);
        }
        for (int k = 0; k < 12; k++) {
            h = 31 * h + x.learnt(k);
        }
        return h;
    }
}
