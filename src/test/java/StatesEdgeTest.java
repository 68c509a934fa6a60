import java.util.function.IntSupplier;

/** The boundary cases of STATES and refusals in the section "Terms", a method for each sentence: see TermsEdgeTest. */
public final class StatesEdgeTest extends Held {
    public static void main(String[] args) {
        about("each call told S leaves one"); callsThatLeaveStates();
        about("also if nothing becomes other by it"); statesWithoutChange();
        about("STATES: if it is not refused"); refusedLeavesNoState();
        about("calls not told S"); callsThatLeaveNoState();
        about("5 at most, older ones lost"); fiveStates();
        about("all but THE TEXT and how often refused"); whatGoesBack();
        about("Refused, the first of: BAD, NO, FULL"); orderOfRefusals();
        about("changing nothing but how often"); refusedChangesNothing();
        about("Refused (any call, getters, too)"); everyRefusalCounts();
        about("By THE TEXT nothing counts"); textCountsNothing();
        about("at most 512 calls"); lastCalls();
        end("the edges of STATES and refusals hold");
    }

    // ---- STATES

    private static void callsThatLeaveStates() {
        for (int states = 0; states < 7; states++) {
            PortBench x = benchOf(3, 1, 2, 0, 5, 0, 1, 0);
            x.learns();
            emptyPast(x);
            for (int i = 0; i < states; i++) {
                x.errs(3, 9, 9);
            }
            leaves("box", x, x::box, 1);
            leaves("sets", x, () -> x.sets(0, 0, 7, 7), n(3, 1));
            leaves("errs", x, () -> x.errs(0, 7, 7), 0);
            leaves("drops", x, () -> x.drops(0), 0);
            leaves("learns", x, x::learns, 12);
            leaves("reads", x, () -> x.reads(0), 1);
            leaves("chains", x, () -> x.chains(0, 0), 1);
            leaves("peels", x, () -> x.peels(0, 0, 0), 1);
            leaves("turns", x, () -> x.turns(0), 1);
            typed(x, "e0 7 7;l;r0;b1 1 1 1 1 1 1 1;c0 1;");
            leaves("does", x, x::does, 5);
        }
    }

    private static void emptyPast(PortBench x) {
        // Nothing can be taken from the past but by going back, so it is filled with what is, then gone through.
        for (int i = 0; i < 5; i++) {
            x.errs(3, 0, 0);
        }
        for (int i = 4; i >= 0; i--) {
            due("back", x.back(), i);
        }
    }

    private static void statesWithoutChange() {
        PortBench x = benchOf(3, 1, 2, 0, 5, 0, 1, 0);
        x.learns();
        emptyPast(x);
        leaves("sets to what it is", x, () -> x.sets(0, 0, 3, 1), n(3, 1));
        leaves("errs to what it is", x, () -> x.errs(2, 1, 0), THROUGH);
        leaves("learns what is learnt", x, x::learns, 12);
        typed(x, "e2 1 0;");
        leaves("does what is", x, x::does, 1);
        due("no state yet", x.count(6), 0);
        x.sets(0, 0, 3, 1);
        x.errs(2, 1, 0);
        x.learns();
        x.does();
        due("four states", x.count(6), 4);
    }

    private static void refusedLeavesNoState() {
        // With 5 STATES a sixth would not show in their number: here are 3.
        PortBench x = new PortBench();
        due("does", done(x, "b0 0 1 0 1 0 0 0;".repeat(7)), 7);
        x.errs(0, 0, 0);
        x.sets(0, 2, 0, 0);
        due("states", x.count(6), 3);
        refused("sets", x, BAD, () -> x.sets(7, 0, 0, 0));
        refused("errs", x, BAD, () -> x.errs(12, 0, 0));
        refused("drops", x, BAD, () -> x.drops(7));
        refused("reads", x, NO, () -> x.reads(1));
        refused("chains", x, NO, () -> x.chains(0, 1));
        refused("peels", x, NO, () -> x.peels(0, 1, 1));
        typed(x, "r9;");
        kept("does, an ORDER refused", x, x::does, -1000);
        typed(x, "r");
        kept("does, a FAULT", x, x::does, -11);
        due("box", x.box(), 7);
        due("states", x.count(6), 4);
        refused("box", x, FULL, x::box);
        refused("turns", x, FULL, () -> x.turns(1));
        refused("chains", x, FULL, () -> x.chains(1, 1));
        refused("peels", x, FULL, () -> x.peels(1, 1, 1));
        due("back", x.back(), 3);
        due("errs", x.errs(2, 0, 0), THROUGH);
        refused("learns", x, NO, x::learns);
        due("back", x.back(), 3);
        due("the oldest are there yet", x.back(), 2);
        due("the oldest are there yet", x.back(), 1);
        due("the oldest are there yet", x.back(), 0);
        refused("back", x, NO, x::back);
    }

    private static void callsThatLeaveNoState() {
        PortBench x = benchWith(1);
        x.learns();
        IntSupplier[] getters = {() -> x.of(0, 1), () -> x.error(2), () -> x.told(0, 1), () -> x.learnt(2),
            () -> x.form(0, 1, 3), () -> x.ends(0, 0, 1, 0)};
        for (int i = 0; i < getters.length; i++) {
            kept("getter " + i, x, getters[i], THROUGH);
        }
        kept("det", x, () -> x.det(0), n(TOP, 0));
        kept("test", x, () -> x.test(0, 0), 1);
        kept("like", x, () -> x.like(0), 0);
        kept("count", x, () -> x.count(6), 2);
        due("type", x.type('l'), 1);
        due("states behind type", x.count(6), 2);
        due("clear", x.clear(), 1);
        due("states behind clear", x.count(6), 2);
        due("back", x.back(), 1);
        due("states behind back", x.count(6), 1);
    }

    private static void fiveStates() {
        for (int calls = 1; calls <= 12; calls++) {
            PortBench x = new PortBench();
            for (int i = 1; i <= calls; i++) {
                x.errs(0, i, i);
                due("states after " + i, x.count(6), Math.min(i, 5));
            }
            int states = Math.min(calls, 5);
            for (int i = 1; i <= states; i++) {
                due("back " + i + " of " + calls, x.back(), states - i);
                due("error", x.error(0), n(calls - i, calls - i));
            }
            refused("back beyond the oldest", x, NO, x::back);
            due("error", x.error(0), n(calls - states, calls - states));
        }
        // Gone back and on again, the STATES between are those of the new way.
        PortBench y = new PortBench();
        for (int i = 1; i <= 7; i++) {
            y.errs(0, i, 0);
        }
        due("back", y.back(), 4);
        due("back", y.back(), 3);
        y.errs(0, 20, 0);
        y.errs(0, 21, 0);
        due("states", y.count(6), 5);
        y.errs(0, 22, 0);
        int[] was = {21, 20, 5, 4, 3};
        for (int i = 0; i < 5; i++) {
            due("back", y.back(), 4 - i);
            due("error", y.error(0), n(was[i], 0));
        }
        refused("back", y, NO, y::back);
    }

    private static void whatGoesBack() {
        PortBench x = benchOf(1, 2, 3, 4, 5, 6, 7, 8);
        x.learns();
        String orders = "e0 9 9;e11 9 9;l;b1 1 1 1 1 1 1 1;";
        due("does", done(x, orders), 4);
        x.of(8, 8);
        x.reads(8);
        x.form(1, 3, 0);
        x.type(128);
        x.errs(1, 1, 0);
        x.learns();
        due("back", x.back(), 4);
        due("error 1", x.error(1), 0);
        due("learnt 11", x.learnt(11), n(9, 9));
        due("back", x.back(), 3);
        due("boxes", x.count(0), 1);
        boxIs("box 0", x, 0, n(1, 2), n(3, 4), n(5, 6), n(7, 8));
        due("error 0", x.error(0), 0);
        due("error 11", x.error(11), THROUGH);
        due("learnt 11", x.learnt(11), THROUGH);
        due("back", x.back(), 2);
        due("learnt 11, nothing is learnt", x.learnt(11), NONE);
        due("whether something is learnt", x.count(1), 0);
        due("back", x.back(), 1);
        boxIs("box 0", x, 0, n(1, 2), n(3, 4), n(5, 6), 0);
        refusals("they do not go back", x, 3, 1, 0);
        due("bytes do not go back", x.count(5), orders.length());
        due("the text is as it was", x.does(), 4);
        PortBench y = benchWith(1);
        typed(y, "l;");
        y.back();
        due("typed behind the state, kept", y.does(), 1);
        y.clear();
        y.back();
        due("cleared behind the state, empty", y.count(5), 0);
    }

    // ---- refusals

    private static void orderOfRefusals() {
        PortBench x = benchWith(8);
        // Box 0 has no FORM, box 1 a FORM without INVERSE; of both nothing is TOLD; nothing is LEARNT.
        x.sets(0, 2, 0, 0);
        x.sets(1, 1, 0, 0);
        x.sets(0, 0, 1, 0);
        x.sets(1, 0, 1, 0);
        x.errs(1, 1, 0);
        refused("told: BAD ahead of NO", x, BAD, () -> x.told(0, 4));
        refused("told: NO", x, NO, () -> x.told(0, 3));
        refused("form: BAD ahead of NO", x, BAD, () -> x.form(0, 1, 4));
        refused("form: NO", x, NO, () -> x.form(0, 1, 3));
        refused("ends: BAD ahead of NO", x, BAD, () -> x.ends(0, 2, 1, 0));
        refused("ends: NO", x, NO, () -> x.ends(0, 1, 1, 0));
        refused("reads: BAD ahead of NO and FULL", x, BAD, () -> x.reads(8));
        refused("reads: NO ahead of FULL, nothing is LEARNT", x, NO, () -> x.reads(2));
        refused("chains: BAD ahead of NO and FULL", x, BAD, () -> x.chains(0, 8));
        refused("chains: NO ahead of FULL", x, NO, () -> x.chains(0, 7));
        refused("chains: FULL", x, FULL, () -> x.chains(6, 7));
        refused("peels: BAD ahead of NO and FULL", x, BAD, () -> x.peels(0, 1, 8));
        refused("peels: NO ahead of FULL, no FORM", x, NO, () -> x.peels(0, 6, 7));
        refused("peels: NO ahead of FULL, no INVERSE", x, NO, () -> x.peels(5, 1, 7));
        refused("peels: FULL", x, FULL, () -> x.peels(5, 6, 7));
        refused("turns: BAD ahead of FULL", x, BAD, () -> x.turns(8));
        refused("turns: FULL", x, FULL, () -> x.turns(7));
        x.errs(1, 0, 0);
        x.learns();
        x.errs(1, 1, 0);
        refused("reads: NO ahead of FULL, nothing is TOLD", x, NO, () -> x.reads(0));
        refused("reads: FULL", x, FULL, () -> x.reads(2));
        typed(x, "l".repeat(120));
        refused("type: BAD ahead of FULL", x, BAD, () -> x.type(128));
        refused("type: FULL", x, FULL, () -> x.type(127));
    }

    /** Twins: one is refused again and again, the other is not; then both go back, and do the same text. */
    private static void refusedChangesNothing() {
        PortBench x = twin();
        PortBench y = twin();
        IntSupplier[] calls = {x::box, () -> x.sets(8, 0, 5, 5), () -> x.sets(0, 4, 5, 5), () -> x.sets(0, 0, 5, 10007),
            () -> x.sets(0, 0, 10007, 5), () -> x.errs(12, 5, 5), () -> x.errs(0, 5, 10007), () -> x.errs(0, 10007, 5),
            () -> x.drops(8), () -> x.drops(-1), () -> x.of(8, 0), () -> x.error(12), () -> x.told(0, 4),
            () -> x.told(1, 0),
            x::learns, () -> x.learnt(12), () -> x.reads(8), () -> x.reads(1), () -> x.reads(7), () -> x.chains(8, 0),
            () -> x.chains(0, 1), () -> x.chains(6, 7), () -> x.peels(0, 0, 8), () -> x.peels(0, 7, 1),
            () -> x.peels(5, 6, 7), () -> x.turns(8), () -> x.turns(7), () -> x.form(0, 4, 0), () -> x.form(1, 1, 0),
            () -> x.det(8), () -> x.ends(0, 0, 10007, 0), () -> x.ends(1, 1, 1, 0), () -> x.test(0, 4), () -> x.like(8),
            () -> x.type(128), () -> x.type('l'), () -> x.count(7)};
        int[] kinds = {FULL, BAD, BAD, BAD, BAD, BAD, BAD, BAD, BAD, BAD, BAD, BAD, BAD, NO, NO, BAD, BAD, NO, FULL,
            BAD, NO, FULL, BAD, NO, FULL, BAD, FULL, BAD, NO, BAD, BAD, NO, BAD, BAD, BAD, FULL, BAD};
        int[] often = new int[3];
        for (int i = 0; i < calls.length; i++) {
            due("call " + i, calls[i].getAsInt(), kinds[i]);
            often[BAD - kinds[i]]++;
        }
        refusals("all of them", x, often[0], often[1], often[2]);
        due("the twin's content", contentOf(x) - contentOf(y), 0);
        for (int i = 4; i >= 0; i--) {
            due("back", x.back(), i);
            due("the twin's back", y.back(), i);
            due("the twin's content, gone back", contentOf(x) - contentOf(y), 0);
        }
        due("back", x.back(), NO);
        due("the twin's boxes", x.count(0), y.count(0));
        due("does", x.does(), 35);
        due("the twin's does", y.does(), 35);
    }

    /** A full bench and a full text; box 1 has no FORM,
        and nothing is TOLD of it; the errors can not be learnt anew. */
    private static PortBench twin() {
        PortBench x = benchWith(8);
        x.learns();
        x.sets(1, 0, 1, 0);
        x.sets(0, 0, 3, 3);
        x.sets(1, 2, 0, 0);
        x.errs(1, 1, 0);
        x.errs(7, 4, 4);
        typed(x, "e0 1 1;".repeat(10) + "l;".repeat(25));
        return x;
    }

    private static void everyRefusalCounts() {
        PortBench x = new PortBench();
        IntSupplier[] bad = {() -> x.of(0, 0), () -> x.error(12), () -> x.told(0, 0), () -> x.learnt(12),
            () -> x.form(0, 1, 0),
            () -> x.det(0), () -> x.ends(0, 0, 0, 0), () -> x.test(0, 0), () -> x.like(0), () -> x.count(7),
            () -> x.sets(0, 0, 0, 0), () -> x.errs(12, 0, 0), () -> x.drops(0), () -> x.reads(0), () -> x.chains(0, 0),
            () -> x.peels(0, 0, 0), () -> x.turns(0), () -> x.type(128)};
        for (int i = 0; i < bad.length; i++) {
            due("call " + i, bad[i].getAsInt(), BAD);
            refusals("call " + i, x, i + 1, 0, 0);
        }
        PortBench y = benchOf(0, 0, 0, 0, 0, 0, 1, 0);
        y.errs(4, 1, 0);
        IntSupplier[] no = {() -> y.told(0, 0), y::learns, () -> y.reads(0), () -> y.chains(0, 0),
            () -> y.peels(0, 0, 0),
            () -> y.form(0, 1, 0), () -> y.form(0, 2, 0), () -> y.form(0, 3, 0), () -> y.ends(0, 0, 1, 0)};
        for (int i = 0; i < no.length; i++) {
            due("call " + i, no[i].getAsInt(), NO);
            refusals("call " + i, y, 0, i + 1, 0);
        }
        PortBench z = benchWith(8);
        z.learns();
        typed(z, "l".repeat(120));
        IntSupplier[] full = {z::box, () -> z.reads(0), () -> z.chains(0, 0), () -> z.peels(0, 0, 0), () -> z.turns(0),
            () -> z.type(0)};
        for (int i = 0; i < full.length; i++) {
            due("call " + i, full[i].getAsInt(), FULL);
            refusals("call " + i, z, 0, 0, i + 1);
        }
    }

    private static void textCountsNothing() {
        PortBench x = benchWith(8);
        String[] texts = {"e12 0 0;", "r8;", "r0;", "e2 0 0;l;", "c0 0;", "b0 0 0 0 0 0 0 0;",
            "b0 0 0 0 0 0 0 10007;", "x", "", "r"};
        int[] answers = {-1000, -1000, -1000, -1001, -1000, -1000, -1000, -10, -10, -11};
        for (int i = 0; i < texts.length; i++) {
            due(texts[i], done(x, texts[i]), answers[i]);
            refusals(texts[i], x, 0, 0, 0);
        }
        due("done", done(x, "l;"), 1);
        refusals("done", x, 0, 0, 0);
    }

    // ---- how long an object is used

    private static void lastCalls() {
        PortBench x = new PortBench();
        for (int i = 1; i <= 511; i++) {
            due("refused call " + i, x.of(i, 0), BAD);
        }
        due("call 512", x.count(2), 511);
        PortBench y = new PortBench();
        for (int i = 1; i <= 511; i++) {
            due("errs, call " + i, y.errs(11, i, i), i == 1 ? THROUGH : n(i - 1, i - 1));
        }
        due("call 512", y.back(), 4);
    }
}
