/** A two-port bench over exact numbers x + y i, both parts reckoned by 10007. */
public final class PortBench {
    public static final int NONE = -1, BAD = -2, NO = -3, FULL = -4;

    private static final int PRIME = 10007;
    private static final int FOUR = 4;
    private static final int BOX_LIMIT = 8;
    private static final int ERRORS = 12;
    // Errors 0 .. 5 belong to side 1, errors 6 .. 11 in the same order to side 2.
    private static final int ERRORS_OF_SIDE = 6;
    private static final int STATE_LIMIT = 5;
    private static final int TEXT_LIMIT = 120;
    private static final int BYTE_LIMIT = 128;
    private static final int FIGURE_LIMIT = 5;
    // The shortest order, l; has two bytes.
    private static final int ORDER_LIMIT = TEXT_LIMIT / 2;
    private static final int FAULT_BASE = -10;
    private static final int ORDER_BASE = -1000;
    private static final int COUNTS = 7;
    private static final int TESTS = 4;
    private static final long DIGEST_START = 2693L;

    // NUMBERS as they are told: 10007 * x + y.
    private static final int ZERO = 0;
    private static final int ONE = PRIME;
    private static final int TWO = 2 * PRIME;
    private static final int MINUS_ONE = (PRIME - 1) * PRIME;

    private final Works works;
    private final Text text;
    private final State[] past;
    private State now;
    private State draft;
    private int pastCount;
    private int badCount;
    private int noCount;
    private int fullCount;

    public PortBench() {
        works = new Works();
        text = new Text();
        now = new State();
        draft = new State();
        past = new State[STATE_LIMIT];
        for (int i = 0; i < STATE_LIMIT; i++) {
            past[i] = new State();
        }
    }

    // ---- boxes and errors

    public int box() {
        return settled(works.addThrough(drafted()));
    }

    public int sets(int b, int k, int x, int y) {
        return settled(drafted().putNumber(b, k, x, y));
    }

    public int errs(int k, int x, int y) {
        return settled(drafted().putError(k, x, y));
    }

    public int drops(int b) {
        return settled(drafted().removeBox(b));
    }

    public int of(int b, int k) {
        if (!now.hasBox(b) || !isBelow(k, FOUR)) {
            return noted(BAD);
        }
        return now.boxes[b].at(k);
    }

    public int error(int k) {
        if (!isBelow(k, ERRORS)) {
            return noted(BAD);
        }
        return now.errors[k];
    }

    // ---- learnt and read

    public int told(int b, int k) {
        return noted(works.toldNumber(now, b, k));
    }

    public int learns() {
        return settled(works.learnErrors(drafted()));
    }

    public int learnt(int k) {
        if (!isBelow(k, ERRORS)) {
            return noted(BAD);
        }
        return now.knows ? now.known[k] : NONE;
    }

    public int reads(int b) {
        return settled(works.addReading(drafted(), b));
    }

    // ---- chains, forms, tests

    public int chains(int a, int b) {
        return settled(works.addChain(drafted(), a, b));
    }

    public int peels(int m, int a, int b) {
        return settled(works.addPeeled(drafted(), m, a, b));
    }

    public int turns(int b) {
        return settled(works.addTurned(drafted(), b));
    }

    public int form(int b, int f, int k) {
        return noted(works.formNumber(now, b, f, k));
    }

    public int det(int b) {
        if (!now.hasBox(b)) {
            return noted(BAD);
        }
        return now.boxes[b].determinant();
    }

    public int ends(int b, int side, int x, int y) {
        if (!now.hasBox(b) || !isBelow(side, 2) || !Num.isGiven(x, y)) {
            return noted(BAD);
        }
        return noted(seenInto(now.boxes[b], side, Num.made(x, y)));
    }

    public int test(int b, int what) {
        if (!now.hasBox(b) || !isBelow(what, TESTS)) {
            return noted(BAD);
        }
        return passed(now.boxes[b], what);
    }

    public int like(int b) {
        if (!now.hasBox(b)) {
            return noted(BAD);
        }
        return now.leastAlike(b);
    }

    // ---- texts

    public int type(int c) {
        return noted(text.takeByte(c));
    }

    public int clear() {
        return text.empty();
    }

    public int does() {
        int fault = text.readOrders();
        if (fault != NONE) {
            return FAULT_BASE - fault;
        }
        State next = drafted();
        for (int i = 0; i < text.orderCount; i++) {
            if (obeyed(next, i) < 0) {
                return ORDER_BASE - i;
            }
        }
        keepDraft();
        return text.orderCount;
    }

    public int back() {
        if (pastCount <= 0) {
            return noted(NO);
        }
        pastCount--;
        State left = now;
        now = past[pastCount];
        past[pastCount] = left;
        return pastCount;
    }

    public int count(int what) {
        switch (what) {
            case 0: return now.boxCount;
            case 1: return now.knows ? 1 : 0;
            case 2: return badCount;
            case 3: return noCount;
            case 4: return fullCount;
            case 5: return text.length;
            case 6: return pastCount;
            default: return noted(BAD);
        }
    }

    public long digest() {
        long h = DIGEST_START;
        for (int what = 0; what < COUNTS; what++) {
            h = 31 * h + count(what);
        }
        for (int b = 0; b < BOX_LIMIT && b < now.boxCount; b++) {
            h = boxDigest(h, b);
        }
        for (int k = 0; k < ERRORS; k++) {
            h = 31 * h + error(k);
        }
        for (int k = 0; k < ERRORS; k++) {
            h = 31 * h + learnt(k);
        }
        return h;
    }

    // ---- how calls end

    /** Counts a refusal; every other answer (NONE too) goes through as it is. */
    private int noted(int answer) {
        if (answer == BAD) {
            badCount++;
        } else if (answer == NO) {
            noCount++;
        } else if (answer == FULL) {
            fullCount++;
        }
        return answer;
    }

    /** What a call told S works on, so that a refused one leaves no trace. */
    private State drafted() {
        draft.copyFrom(now);
        return draft;
    }

    private int settled(int answer) {
        if (answer < 0) {
            return noted(answer);
        }
        keepDraft();
        return answer;
    }

    /** The draft becomes what is, what was becomes a STATE; the object that falls out is the next draft. */
    private void keepDraft() {
        State spare;
        if (pastCount < STATE_LIMIT) {
            spare = past[pastCount];
            past[pastCount] = now;
            pastCount++;
        } else {
            spare = past[0];
            for (int i = 1; i < STATE_LIMIT; i++) {
                past[i - 1] = past[i];
            }
            past[STATE_LIMIT - 1] = now;
        }
        now = draft;
        draft = spare;
    }

    private int obeyed(State next, int order) {
        switch (text.letterOf(order)) {
            case 'b': return works.addGiven(next, text, order);
            case 'e': return next.putError(text.numberOf(order, 0), text.numberOf(order, 1), text.numberOf(order, 2));
            case 'l': return works.learnErrors(next);
            case 'r': return works.addReading(next, text.numberOf(order, 0));
            case 'c': return works.addChain(next, text.numberOf(order, 0), text.numberOf(order, 1));
            default: return BAD;
        }
    }

    private long boxDigest(long start, int b) {
        Four box = now.boxes[b];
        long h = start;
        for (int k = 0; k < FOUR; k++) {
            h = 31 * h + box.at(k);
        }
        h = 31 * h + box.determinant();
        for (int what = 0; what < TESTS; what++) {
            h = 31 * h + passed(box, what);
        }
        return 31 * h + now.leastAlike(b);
    }

    // ---- what is asked of one box

    private static boolean isBelow(int n, int limit) {
        return n >= 0 && n < limit;
    }

    private static int seenInto(Four s, int side, int z) {
        int near = side == 0 ? s.n11 : s.n22;
        int far = side == 0 ? s.n22 : s.n11;
        int divisor = Num.minus(ONE, Num.times(far, z));
        if (divisor == ZERO) {
            return NO;
        }
        int through = Num.times(Num.times(s.n12, s.n21), z);
        return Num.plus(near, Num.over(through, divisor));
    }

    private static int passed(Four s, int what) {
        switch (what) {
            case 0: return s.n12 == s.n21 ? 1 : 0;
            case 1: return s.n11 == s.n22 ? 1 : 0;
            case 2: return s.n11 == ZERO && s.n22 == ZERO ? 1 : 0;
            default: return losesNothing(s) ? 1 : 0;
        }
    }

    private static boolean losesNothing(Four s) {
        int r11 = Num.other(s.n11);
        int r12 = Num.other(s.n12);
        int r21 = Num.other(s.n21);
        int r22 = Num.other(s.n22);
        return Num.pairs(r11, s.n11, r21, s.n21) == ONE
            && Num.pairs(r12, s.n12, r22, s.n22) == ONE
            && Num.pairs(r11, s.n12, r21, s.n22) == ZERO;
    }

    /** Reckons with NUMBERS as they are told, so that none needs an object. */
    private static final class Num {
        static boolean isGiven(int x, int y) {
            return isBelow(x, PRIME) && isBelow(y, PRIME);
        }

        static int made(int x, int y) {
            int left = x % PRIME;
            int right = y % PRIME;
            return PRIME * (left < 0 ? left + PRIME : left) + (right < 0 ? right + PRIME : right);
        }

        static int plus(int a, int b) {
            return made(a / PRIME + b / PRIME, a % PRIME + b % PRIME);
        }

        static int minus(int a, int b) {
            return made(a / PRIME - b / PRIME, a % PRIME - b % PRIME);
        }

        static int times(int a, int b) {
            int x = a / PRIME;
            int y = a % PRIME;
            int u = b / PRIME;
            int v = b % PRIME;
            return made(x * u - y * v, x * v + y * u);
        }

        static int other(int a) {
            return made(a / PRIME, -(a % PRIME));
        }

        /** a * b + c * d. */
        static int pairs(int a, int b, int c, int d) {
            return plus(times(a, b), times(c, d));
        }

        /** w / z; whoever calls has seen that z is not 0. */
        static int over(int w, int z) {
            int x = z / PRIME;
            int y = z % PRIME;
            // x * x + y * y is 0 for z = 0 alone, since 10007 leaves 3 by 4.
            int part = inverted((x * x + y * y) % PRIME);
            int u = x * part % PRIME;
            int v = y * part % PRIME;
            int p = w / PRIME;
            int q = w % PRIME;
            return made(p * u + q * v, q * u - p * v);
        }

        /** The inverse of one part, as its power 10005. */
        private static int inverted(int part) {
            int square = part;
            int inverse = 1;
            for (int left = PRIME - 2; left > 0; left = left / 2) {
                if (left % 2 == 1) {
                    inverse = inverse * square % PRIME;
                }
                square = square * square % PRIME;
            }
            return inverse;
        }
    }

    /** Four NUMBERS in two rows: a BOX, what is TOLD of one, or a FORM. */
    private static final class Four {
        int n11;
        int n12;
        int n21;
        int n22;

        void fill(int a, int b, int c, int d) {
            n11 = a;
            n12 = b;
            n21 = c;
            n22 = d;
        }

        void copyFrom(Four from) {
            fill(from.n11, from.n12, from.n21, from.n22);
        }

        int at(int k) {
            switch (k) {
                case 0: return n11;
                case 1: return n12;
                case 2: return n21;
                default: return n22;
            }
        }

        void put(int k, int number) {
            switch (k) {
                case 0: n11 = number; break;
                case 1: n12 = number; break;
                case 2: n21 = number; break;
                default: n22 = number; break;
            }
        }

        boolean isAs(Four o) {
            return n11 == o.n11 && n12 == o.n12 && n21 == o.n21 && n22 == o.n22;
        }

        int determinant() {
            return Num.minus(Num.times(n11, n22), Num.times(n12, n21));
        }

        /** Every NUMBER of it over z, which is not 0. */
        void divideBy(int z) {
            int part = Num.over(ONE, z);
            fill(Num.times(n11, part), Num.times(n12, part), Num.times(n21, part), Num.times(n22, part));
        }

        /** Becomes a * b; a and b may be this one. */
        void becomeProduct(Four a, Four b) {
            fill(Num.pairs(a.n11, b.n11, a.n12, b.n21), Num.pairs(a.n11, b.n12, a.n12, b.n22),
                Num.pairs(a.n21, b.n11, a.n22, b.n21), Num.pairs(a.n21, b.n12, a.n22, b.n22));
        }

        /** Becomes its own INVERSE; false: there is none. */
        boolean invert() {
            int n = determinant();
            if (n == ZERO) {
                return false;
            }
            fill(n22, Num.minus(ZERO, n12), Num.minus(ZERO, n21), n11);
            divideBy(n);
            return true;
        }

        /** Becomes the TRANSFER FORM of BOX s; false: there is none. */
        boolean becomeTransfer(Four s) {
            if (s.n21 == ZERO) {
                return false;
            }
            int by = s.n21;
            fill(Num.minus(ZERO, s.determinant()), s.n11, Num.minus(ZERO, s.n22), ONE);
            divideBy(by);
            return true;
        }

        /** Becomes the BOX whose TRANSFER FORM is t; false: there is none. */
        boolean becomeBoxOf(Four t) {
            if (t.n22 == ZERO) {
                return false;
            }
            int by = t.n22;
            fill(t.n12, t.determinant(), ONE, Num.minus(ZERO, t.n21));
            divideBy(by);
            return true;
        }

        /** Becomes FORM 2 of BOX s; false: there is none. */
        boolean becomeSecondForm(Four s) {
            int less1 = Num.minus(ONE, s.n11);
            int less2 = Num.minus(ONE, s.n22);
            int more1 = Num.plus(ONE, s.n11);
            int more2 = Num.plus(ONE, s.n22);
            int cross = Num.times(s.n12, s.n21);
            int n = Num.minus(Num.times(less1, less2), cross);
            if (n == ZERO) {
                return false;
            }
            fill(Num.plus(Num.times(more1, less2), cross), Num.times(TWO, s.n12),
                Num.times(TWO, s.n21), Num.plus(Num.times(less1, more2), cross));
            divideBy(n);
            return true;
        }
    }

    /** All that a STATE brings back: BOXES, ERRORS and what is LEARNT. */
    private static final class State {
        final Four[] boxes;
        final int[] errors;
        final int[] known;
        int boxCount;
        boolean knows;

        State() {
            boxes = new Four[BOX_LIMIT];
            for (int i = 0; i < BOX_LIMIT; i++) {
                boxes[i] = new Four();
            }
            errors = new int[ERRORS];
            for (int k = 2; k < ERRORS; k += 3) {
                errors[k] = ONE;
            }
            known = new int[ERRORS];
        }

        void copyFrom(State from) {
            for (int i = 0; i < BOX_LIMIT; i++) {
                boxes[i].copyFrom(from.boxes[i]);
            }
            System.arraycopy(from.errors, 0, errors, 0, ERRORS);
            System.arraycopy(from.known, 0, known, 0, ERRORS);
            boxCount = from.boxCount;
            knows = from.knows;
        }

        boolean hasBox(int b) {
            return isBelow(b, boxCount) && b < BOX_LIMIT;
        }

        /** A new BOX: its number, or FULL. */
        int addBox(Four box) {
            if (!isBelow(boxCount, BOX_LIMIT)) {
                return FULL;
            }
            boxes[boxCount].copyFrom(box);
            boxCount++;
            return boxCount - 1;
        }

        int removeBox(int b) {
            if (!hasBox(b)) {
                return BAD;
            }
            for (int i = b + 1; i < BOX_LIMIT; i++) {
                boxes[i - 1].copyFrom(boxes[i]);
            }
            boxCount--;
            return boxCount;
        }

        int putNumber(int b, int k, int x, int y) {
            if (!hasBox(b) || !isBelow(k, FOUR) || !Num.isGiven(x, y)) {
                return BAD;
            }
            int was = boxes[b].at(k);
            boxes[b].put(k, Num.made(x, y));
            return was;
        }

        int putError(int k, int x, int y) {
            if (!isBelow(k, ERRORS) || !Num.isGiven(x, y)) {
                return BAD;
            }
            int was = errors[k];
            errors[k] = Num.made(x, y);
            return was;
        }

        int leastAlike(int b) {
            for (int i = 0; i < b; i++) {
                if (boxes[i].isAs(boxes[b])) {
                    return i;
                }
            }
            return b;
        }
    }

    /** The steps that need rows of their own; these are made once and used again. */
    private static final class Works {
        private final Four standard = new Four();
        private final Four toldRow = new Four();
        private final Four plain = new Four();
        private final Four formA = new Four();
        private final Four formB = new Four();
        private final Four formM = new Four();
        private final Four fresh = new Four();
        private final int[] guess = new int[ERRORS];

        int addThrough(State s) {
            fresh.fill(ZERO, ONE, ONE, ZERO);
            return s.addBox(fresh);
        }

        int addGiven(State s, Text text, int order) {
            for (int k = 0; k < FOUR; k++) {
                int x = text.numberOf(order, 2 * k);
                int y = text.numberOf(order, 2 * k + 1);
                if (!Num.isGiven(x, y)) {
                    return BAD;
                }
                fresh.put(k, Num.made(x, y));
            }
            return s.addBox(fresh);
        }

        int addTurned(State s, int b) {
            if (!s.hasBox(b)) {
                return BAD;
            }
            Four box = s.boxes[b];
            fresh.fill(box.n22, box.n21, box.n12, box.n11);
            return s.addBox(fresh);
        }

        int addChain(State s, int a, int b) {
            if (!s.hasBox(a) || !s.hasBox(b)) {
                return BAD;
            }
            if (!formA.becomeTransfer(s.boxes[a]) || !formB.becomeTransfer(s.boxes[b])) {
                return NO;
            }
            formM.becomeProduct(formA, formB);
            return fresh.becomeBoxOf(formM) ? s.addBox(fresh) : NO;
        }

        int addPeeled(State s, int m, int a, int b) {
            if (!s.hasBox(m) || !s.hasBox(a) || !s.hasBox(b)) {
                return BAD;
            }
            if (!formM.becomeTransfer(s.boxes[m]) || !formA.becomeTransfer(s.boxes[a])
                || !formB.becomeTransfer(s.boxes[b]) || !formA.invert() || !formB.invert()) {
                return NO;
            }
            formM.becomeProduct(formA, formM);
            formM.becomeProduct(formM, formB);
            return fresh.becomeBoxOf(formM) ? s.addBox(fresh) : NO;
        }

        int formNumber(State s, int b, int f, int k) {
            if (!s.hasBox(b) || !isBelow(k, FOUR) || f < 1 || f > 3) {
                return BAD;
            }
            boolean stands;
            if (f == 1) {
                stands = formA.becomeTransfer(s.boxes[b]);
            } else {
                stands = formA.becomeSecondForm(s.boxes[b]) && (f == 2 || formA.invert());
            }
            return stands ? formA.at(k) : NO;
        }

        int toldNumber(State s, int b, int k) {
            if (!s.hasBox(b) || !isBelow(k, FOUR)) {
                return BAD;
            }
            return tells(s.errors, s.boxes[b]) ? toldRow.at(k) : NO;
        }

        int addReading(State s, int b) {
            if (!s.hasBox(b)) {
                return BAD;
            }
            if (!s.knows || !tells(s.errors, s.boxes[b]) || !strip(s.known) || !solve(s.known)) {
                return NO;
            }
            return s.addBox(fresh);
        }

        /** LEARNING: how many were met, or NO. */
        int learnErrors(State s) {
            if (!learnLoad(s.errors) || !learnEnds(s.errors, 0) || !learnEnds(s.errors, 1)
                || !learnThrough(s.errors)) {
                return NO;
            }
            System.arraycopy(guess, 0, s.known, 0, ERRORS);
            s.knows = true;
            int met = 0;
            for (int k = 0; k < ERRORS; k++) {
                if (s.known[k] == s.errors[k]) {
                    met++;
                }
            }
            return met;
        }

        /** Fills toldRow with what THE BENCH TELLS of BOX s; false: nothing is TOLD. */
        private boolean tells(int[] e, Four s) {
            int whole = s.determinant();
            int less1 = Num.minus(Num.minus(ONE, Num.times(e[1], s.n11)), Num.times(e[4], s.n22));
            int less2 = Num.minus(Num.minus(ONE, Num.times(e[10], s.n11)), Num.times(e[7], s.n22));
            int d = Num.plus(less1, Num.times(Num.times(e[1], e[4]), whole));
            int f = Num.plus(less2, Num.times(Num.times(e[10], e[7]), whole));
            if (d == ZERO || f == ZERO) {
                return false;
            }
            int seen1 = Num.times(e[2], Num.minus(s.n11, Num.times(e[4], whole)));
            int seen2 = Num.times(e[8], Num.minus(s.n22, Num.times(e[10], whole)));
            toldRow.fill(Num.plus(e[0], Num.over(seen1, d)),
                Num.plus(e[9], Num.over(Num.times(e[11], s.n12), f)),
                Num.plus(e[3], Num.over(Num.times(e[5], s.n21), d)),
                Num.plus(e[6], Num.over(seen2, f)));
            return true;
        }

        private boolean learnLoad(int[] e) {
            standard.fill(ZERO, ZERO, ZERO, ZERO);
            if (!tells(e, standard)) {
                return false;
            }
            guess[0] = toldRow.n11;
            guess[3] = toldRow.n21;
            guess[6] = toldRow.n22;
            guess[9] = toldRow.n12;
            return true;
        }

        /** From the OPEN and the SHORT at one side. */
        private boolean learnEnds(int[] e, int side) {
            int base = ERRORS_OF_SIDE * side;
            endStandard(side, ONE);
            if (!tells(e, standard)) {
                return false;
            }
            int a = Num.minus(seenAt(side), guess[base]);
            endStandard(side, MINUS_ONE);
            if (!tells(e, standard)) {
                return false;
            }
            int b = Num.minus(seenAt(side), guess[base]);
            int divisor = Num.minus(a, b);
            if (divisor == ZERO) {
                return false;
            }
            guess[base + 1] = Num.over(Num.plus(a, b), divisor);
            guess[base + 2] = Num.times(a, Num.minus(ONE, guess[base + 1]));
            return true;
        }

        private void endStandard(int side, int end) {
            standard.fill(side == 0 ? end : ZERO, ZERO, ZERO, side == 0 ? ZERO : end);
        }

        private int seenAt(int side) {
            return side == 0 ? toldRow.n11 : toldRow.n22;
        }

        private boolean learnThrough(int[] e) {
            standard.fill(ZERO, ONE, ONE, ZERO);
            return tells(e, standard) && learnCrossing(0, toldRow.n21) && learnCrossing(1, toldRow.n12);
        }

        private boolean learnCrossing(int side, int crossed) {
            int base = ERRORS_OF_SIDE * side;
            int c = Num.minus(seenAt(side), guess[base]);
            int divisor = Num.plus(guess[base + 2], Num.times(c, guess[base + 1]));
            if (divisor == ZERO) {
                return false;
            }
            guess[base + 4] = Num.over(c, divisor);
            int rest = Num.minus(ONE, Num.times(guess[base + 1], guess[base + 4]));
            guess[base + 5] = Num.times(Num.minus(crossed, guess[base + 3]), rest);
            return true;
        }

        /** READING, its first half: n11 .. n22 from what is TOLD. */
        private boolean strip(int[] g) {
            if (g[2] == ZERO || g[5] == ZERO || g[8] == ZERO || g[11] == ZERO) {
                return false;
            }
            plain.fill(Num.over(Num.minus(toldRow.n11, g[0]), g[2]),
                Num.over(Num.minus(toldRow.n12, g[9]), g[11]),
                Num.over(Num.minus(toldRow.n21, g[3]), g[5]),
                Num.over(Num.minus(toldRow.n22, g[6]), g[8]));
            return true;
        }

        /** READING, its second half: the BOX from n11 .. n22. */
        private boolean solve(int[] g) {
            int more1 = Num.plus(ONE, Num.times(plain.n11, g[1]));
            int more2 = Num.plus(ONE, Num.times(plain.n22, g[7]));
            int cross = Num.times(plain.n21, plain.n12);
            int q = Num.minus(Num.times(more1, more2), Num.times(cross, Num.times(g[4], g[10])));
            if (q == ZERO) {
                return false;
            }
            int way12 = Num.plus(ONE, Num.times(plain.n11, Num.minus(g[1], g[10])));
            int way21 = Num.plus(ONE, Num.times(plain.n22, Num.minus(g[7], g[4])));
            fresh.fill(Num.minus(Num.times(plain.n11, more2), Num.times(g[4], cross)),
                Num.times(way12, plain.n12),
                Num.times(way21, plain.n21),
                Num.minus(Num.times(plain.n22, more1), Num.times(g[10], cross)));
            fresh.divideBy(q);
            return true;
        }
    }

    /** THE TEXT, and the ORDERS that were read from it last. */
    private static final class Text {
        private final byte[] bytes = new byte[TEXT_LIMIT];
        private final byte[] letters = new byte[ORDER_LIMIT];
        // Where in numbers an order's own begin.
        private final int[] starts = new int[ORDER_LIMIT];
        private final int[] numbers = new int[TEXT_LIMIT];
        int length;
        int orderCount;
        private int numberCount;
        private int place;

        int takeByte(int c) {
            if (!isBelow(c, BYTE_LIMIT)) {
                return BAD;
            }
            if (!isBelow(length, TEXT_LIMIT)) {
                return FULL;
            }
            bytes[length] = (byte) c;
            length++;
            return length;
        }

        int empty() {
            int had = length;
            length = 0;
            return had;
        }

        int letterOf(int order) {
            return isBelow(order, ORDER_LIMIT) ? letters[order] : NONE;
        }

        /** Number k of an order; NONE, which no call takes, if it has none. */
        int numberOf(int order, int k) {
            if (!isBelow(order, ORDER_LIMIT) || !isBelow(k, TEXT_LIMIT)) {
                return NONE;
            }
            int at = starts[order] + k;
            return isBelow(at, TEXT_LIMIT) ? numbers[at] : NONE;
        }

        /** Reads THE TEXT whole: its FAULT, or NONE. */
        int readOrders() {
            orderCount = 0;
            numberCount = 0;
            place = 0;
            skipBlanks();
            for (int n = 0; n < ORDER_LIMIT; n++) {
                if (!readOrder()) {
                    return place;
                }
                skipBlanks();
                if (place >= length) {
                    return NONE;
                }
            }
            return place;
        }

        /** If false, place is where the FAULT is; likewise below. */
        private boolean readOrder() {
            int letter = here();
            int wanted = numbersWanted(letter);
            if (wanted == NONE || !isBelow(orderCount, ORDER_LIMIT)) {
                return false;
            }
            letters[orderCount] = (byte) letter;
            starts[orderCount] = numberCount;
            place++;
            skipBlanks();
            for (int n = 0; n < wanted; n++) {
                if (!readNumber()) {
                    return false;
                }
                skipBlanks();
            }
            if (here() != ';') {
                return false;
            }
            place++;
            orderCount++;
            return true;
        }

        private boolean readNumber() {
            if (!isFigure(here()) || !isBelow(numberCount, TEXT_LIMIT)) {
                return false;
            }
            int value = 0;
            for (int n = 0; n < FIGURE_LIMIT && isFigure(here()); n++) {
                value = 10 * value + (here() - '0');
                place++;
            }
            numbers[numberCount] = value;
            numberCount++;
            // A figure here is the sixth.
            return !isFigure(here());
        }

        private void skipBlanks() {
            while (place < length && here() == ' ') {
                place++;
            }
        }

        /** The byte at place; NONE behind the end. */
        private int here() {
            return place < length && isBelow(place, TEXT_LIMIT) ? bytes[place] : NONE;
        }

        private static boolean isFigure(int c) {
            return c >= '0' && c <= '9';
        }

        private static int numbersWanted(int letter) {
            switch (letter) {
                case 'b': return 8;
                case 'e': return 3;
                case 'l': return 0;
                case 'r': return 1;
                case 'c': return 2;
                default: return NONE;
            }
        }
    }
}
