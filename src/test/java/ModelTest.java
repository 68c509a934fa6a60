import java.util.ArrayDeque;
import java.util.ArrayList;
import java.util.Arrays;
import java.util.Deque;
import java.util.List;
import java.util.regex.Matcher;
import java.util.regex.Pattern;

/**
 * Long runs of chosen-by-dice calls, each answer held against a second telling of the document:
 * records and exceptions instead of rows, inverses by search, THE TEXT by a pattern.
 */
public final class ModelTest {
    private static final int RUNS = 1500;
    // A text that is typed and done may bring 122 more; an object is good for 512.
    private static final int CALLS = 390;
    private static final int DROPS = 6;
    private static final int BAD = -2, NO = -3, FULL = -4;
    private static final int P = 10007;
    private static final int[] PARTS = {0, 0, 0, 1, 1, 10006, 2, 5004, 3, 7, 10005};
    private static final int[] WRONG = {-1, 8, 12, 10007, 4, Integer.MIN_VALUE, Integer.MAX_VALUE};

    private static long dice;

    public static void main(String[] args) {
        for (int run = 0; run < RUNS; run++) {
            dice = 7919L * run + 1;
            String wrong = run(run % 4);
            if (wrong != null) {
                System.out.println("run " + run + ": " + wrong);
                System.exit(1);
            }
        }
        System.out.println("all answers are as the model's, refusals and ORDERS met: " + Arrays.toString(met));
    }

    // How often the model answered BAD, NO, FULL, a FAULT, an ORDER that ends all, ORDERS done.
    private static final long[] met = new long[6];

    private static int roll(int sides) {
        dice = dice * 6364136223846793005L + 1442695040888963407L;
        return (int) ((dice >>> 33) % sides);
    }

    private static int part() {
        int way = roll(8);
        return way == 0 ? roll(P) : PARTS[roll(PARTS.length)];
    }

    /** An argument below limit most of the time. */
    private static int arg(int limit) {
        return roll(40) == 0 || limit <= 0 ? WRONG[roll(WRONG.length)] : roll(limit);
    }

    private static int givenPart() {
        return roll(60) == 0 ? WRONG[roll(WRONG.length)] : part();
    }

    private static String run(int taste) {
        PortBench x = new PortBench();
        Model m = new Model();
        while (m.calls < CALLS) {
            // Else nearly every run would soon hold eight boxes and answer FULL.
            int which = m.now.boxes.size() > taste + 3 && roll(5) == 0 ? DROPS : roll(27);
            String wrong = taste == 3 && roll(12) == 0 ? typeAndDo(x, m) : call(x, m, which);
            if (wrong != null) {
                return "call " + m.calls + ": " + wrong;
            }
        }
        return null;
    }

    private static String same(String what, long got, long want) {
        if (want <= BAD && want >= FULL) {
            met[(int) (BAD - want)]++;
        } else if (what.startsWith("does") && want != 0) {
            met[want <= -1000 ? 4 : want < 0 ? 3 : 5]++;
        }
        return got == want ? null : what + " answered " + got + ", due is " + want;
    }

    private static String call(PortBench x, Model m, int which) {
        int boxes = m.now.boxes.size();
        int a = arg(boxes), b = arg(boxes), c = arg(boxes), k = arg(4), e = arg(12);
        int u = givenPart(), v = givenPart();
        String args = "(of " + Arrays.toString(new int[] {a, b, c, k, e, u, v}) + ")";
        switch (which) {
            case 0: return same("box", x.box(), m.answer(m::box));
            case 1: case 2: case 3:
                return same("sets" + args, x.sets(a, k, u, v), m.answer(() -> m.sets(a, k, u, v)));
            case 4: case 5: return same("errs" + args, x.errs(e, u, v), m.answer(() -> m.errs(e, u, v)));
            case DROPS: return same("drops" + args, x.drops(a), m.answer(() -> m.drops(a)));
            case 7: return same("of" + args, x.of(a, k), m.answer(() -> m.of(a, k)));
            case 8: return same("error" + args, x.error(e), m.answer(() -> m.error(e)));
            case 9: return same("told" + args, x.told(a, k), m.answer(() -> m.told(a, k)));
            case 10: return same("learns", x.learns(), m.answer(m::learns));
            case 11: return same("learnt" + args, x.learnt(e), m.answer(() -> m.learnt(e)));
            case 12: return same("reads" + args, x.reads(a), m.answer(() -> m.reads(a)));
            case 13: return same("chains" + args, x.chains(a, b), m.answer(() -> m.chains(a, b)));
            case 14: return same("peels" + args, x.peels(a, b, c), m.answer(() -> m.peels(a, b, c)));
            case 15: return same("turns" + args, x.turns(a), m.answer(() -> m.turns(a)));
            case 16:
                int f = 1 + arg(3) % 1000;
                return same("form " + f + args, x.form(a, f, k), m.answer(() -> m.form(a, f, k)));
            case 17: return same("det" + args, x.det(a), m.answer(() -> m.det(a)));
            case 18:
                int side = arg(2);
                return same("ends " + side + args, x.ends(a, side, u, v), m.answer(() -> m.ends(a, side, u, v)));
            case 19: return same("test" + args, x.test(a, k), m.answer(() -> m.test(a, k)));
            case 20: return same("like" + args, x.like(a), m.answer(() -> m.like(a)));
            case 21:
                int byteGiven = roll(30) == 0 ? WRONG[roll(WRONG.length)] : "belrc; 019".charAt(roll(10));
                return same("type " + byteGiven, x.type(byteGiven), m.answer(() -> m.type(byteGiven)));
            case 22: return roll(3) == 0 ? same("clear", x.clear(), m.answer(m::clear)) : null;
            case 23: return same("does \"" + m.text + "\"", x.does(), m.answer(m::does));
            case 24: return same("back", x.back(), m.answer(m::back));
            case 25:
                int what = arg(7);
                return same("count " + what, x.count(what), m.answer(() -> m.count(what)));
            default:
                m.calls++;
                return same("digest", x.digest(), m.digest());
        }
    }

    private static String typeAndDo(PortBench x, Model m) {
        StringBuilder text = new StringBuilder();
        int orders = 1 + roll(3);
        for (int i = 0; i < orders; i++) {
            text.append(order(m.now.boxes.size())).append(" ".repeat(roll(2)));
        }
        if (roll(3) == 0) {
            mar(text);
        }
        String wrong = same("clear", x.clear(), m.answer(m::clear));
        for (int i = 0; i < text.length() && wrong == null; i++) {
            int c = text.charAt(i);
            wrong = same("type " + c, x.type(c), m.answer(() -> m.type(c)));
        }
        return wrong != null ? wrong : same("does \"" + m.text + "\"", x.does(), m.answer(m::does));
    }

    private static String order(int boxes) {
        switch (roll(5)) {
            case 0: return "b" + numbers(P, 8) + ";";
            case 1: return "e " + roll(13) + numbers(P, 2) + ";";
            case 2: return "l;";
            case 3: return "r" + numbers(boxes + 1, 1) + ";";
            default: return "c" + numbers(boxes + 1, 2) + ";";
        }
    }

    private static String numbers(int limit, int howMany) {
        StringBuilder all = new StringBuilder();
        for (int i = 0; i < howMany; i++) {
            int one = limit < P ? roll(limit) : roll(50) == 0 ? P + roll(80000) : part();
            all.append(" ".repeat(1 + roll(5) / 4)).append(one);
        }
        return all.toString();
    }

    private static void mar(StringBuilder text) {
        int at = roll(text.length());
        String strange = "0123456789 ;;belrcx" + (char) 0 + (char) 127;
        switch (roll(3)) {
            case 0: text.deleteCharAt(at); break;
            case 1: text.insert(at, strange.charAt(roll(strange.length()))); break;
            default: text.setLength(at); break;
        }
    }

    // ---- the model

    private static final class Refused extends RuntimeException {
        private static final long serialVersionUID = 1L;
        final int kind;

        Refused(int kind) {
            super(null, null, false, false);
            this.kind = kind;
        }
    }

    private interface Call {
        int go();
    }

    private record C(int x, int y) {
        static C of(long x, long y) {
            return new C((int) Math.floorMod(x, (long) P), (int) Math.floorMod(y, (long) P));
        }

        static C real(long x) {
            return of(x, 0);
        }

        C plus(C o) {
            return of(x + o.x, y + o.y);
        }

        C less(C o) {
            return of(x - o.x, y - o.y);
        }

        C by(C o) {
            return of((long) x * o.x - (long) y * o.y, (long) x * o.y + (long) y * o.x);
        }

        C bar() {
            return of(x, -y);
        }

        C over(C o) {
            C norm = o.by(o.bar());
            if (norm.x == 0) {
                throw new Refused(NO);
            }
            return by(o.bar()).by(real(INVERSES[norm.x]));
        }

        int told() {
            return 10007 * x + y;
        }
    }

    private static final int[] INVERSES = inverses();

    // By powers of 5, which goes round all of 1 .. 10006: checked below.
    private static int[] inverses() {
        int[] powers = new int[P - 1];
        powers[0] = 1;
        for (int i = 1; i < P - 1; i++) {
            powers[i] = powers[i - 1] * 5 % P;
        }
        int[] all = new int[P];
        for (int i = 0; i < P - 1; i++) {
            all[powers[i]] = powers[(P - 1 - i) % (P - 1)];
        }
        for (int z = 1; z < P; z++) {
            if (all[z] * z % P != 1) {
                throw new IllegalStateException("no inverse of " + z);
            }
        }
        return all;
    }

    private static final C NIL = C.real(0), UNIT = C.real(1), MINUS = C.real(-1);

    private record Box(C s11, C s12, C s21, C s22) {
        List<C> all() {
            return List.of(s11, s12, s21, s22);
        }

        C det() {
            return s11.by(s22).less(s12.by(s21));
        }
    }

    private record Snapshot(List<Box> boxes, List<C> e, List<C> g) {
        Snapshot copy() {
            return new Snapshot(new ArrayList<>(boxes), new ArrayList<>(e), g == null ? null : new ArrayList<>(g));
        }

        Snapshot with(List<C> learnt) {
            return new Snapshot(boxes, e, learnt);
        }
    }

    private static final class Model {
        Snapshot now = new Snapshot(new ArrayList<>(), new ArrayList<>(), null);
        final Deque<Snapshot> past = new ArrayDeque<>();
        final int[] refusals = new int[3];
        final StringBuilder text = new StringBuilder();
        boolean quiet = false;
        int calls = 0;

        Model() {
            for (int k = 0; k < 12; k++) {
                now.e.add(k == 2 || k == 5 || k == 8 || k == 11 ? UNIT : NIL);
            }
        }

        int answer(Call call) {
            calls++;
            try {
                return call.go();
            } catch (Refused r) {
                refusals[BAD - r.kind]++;
                return r.kind;
            }
        }

        void need(boolean holds, int kind) {
            if (!holds) {
                throw new Refused(kind);
            }
        }

        Box at(int b) {
            need(b >= 0 && b < now.boxes.size(), BAD);
            return now.boxes.get(b);
        }

        void within(int n, int limit) {
            need(n >= 0 && n < limit, BAD);
        }

        C given(int x, int y) {
            within(x, P);
            within(y, P);
            return new C(x, y);
        }

        void leave() {
            if (!quiet) {
                past.addLast(now.copy());
                if (past.size() > 5) {
                    past.removeFirst();
                }
            }
        }

        int add(Box box) {
            need(now.boxes.size() < 8, FULL);
            leave();
            now.boxes.add(box);
            return now.boxes.size() - 1;
        }

        int box() {
            return add(new Box(NIL, UNIT, UNIT, NIL));
        }

        int sets(int b, int k, int x, int y) {
            Box was = at(b);
            within(k, 4);
            C z = given(x, y);
            leave();
            List<C> all = new ArrayList<>(was.all());
            C before = all.set(k, z);
            now.boxes.set(b, new Box(all.get(0), all.get(1), all.get(2), all.get(3)));
            return before.told();
        }

        int errs(int k, int x, int y) {
            within(k, 12);
            C z = given(x, y);
            leave();
            return now.e.set(k, z).told();
        }

        int drops(int b) {
            at(b);
            leave();
            now.boxes.remove(b);
            return now.boxes.size();
        }

        int of(int b, int k) {
            within(k, 4);
            return at(b).all().get(k).told();
        }

        int error(int k) {
            within(k, 12);
            return now.e.get(k).told();
        }

        C e(int k) {
            return now.e.get(k);
        }

        /** m11, m12, m21, m22 as a Box. */
        Box tells(Box s) {
            C d = UNIT.less(e(1).by(s.s11)).less(e(4).by(s.s22)).plus(e(1).by(e(4)).by(s.det()));
            C f = UNIT.less(e(10).by(s.s11)).less(e(7).by(s.s22)).plus(e(10).by(e(7)).by(s.det()));
            C m11 = e(0).plus(e(2).by(s.s11.less(e(4).by(s.det()))).over(d));
            C m21 = e(3).plus(e(5).by(s.s21).over(d));
            C m22 = e(6).plus(e(8).by(s.s22.less(e(10).by(s.det()))).over(f));
            C m12 = e(9).plus(e(11).by(s.s12).over(f));
            return new Box(m11, m12, m21, m22);
        }

        int told(int b, int k) {
            Box s = at(b);
            within(k, 4);
            return tells(s).all().get(k).told();
        }

        int learns() {
            C[] g = new C[12];
            Box load = tells(new Box(NIL, NIL, NIL, NIL));
            g[0] = load.s11;
            g[3] = load.s21;
            g[6] = load.s22;
            g[9] = load.s12;
            C a = tells(new Box(UNIT, NIL, NIL, NIL)).s11.less(g[0]);
            C b = tells(new Box(MINUS, NIL, NIL, NIL)).s11.less(g[0]);
            g[1] = a.plus(b).over(a.less(b));
            g[2] = a.by(UNIT.less(g[1]));
            a = tells(new Box(NIL, NIL, NIL, UNIT)).s22.less(g[6]);
            b = tells(new Box(NIL, NIL, NIL, MINUS)).s22.less(g[6]);
            g[7] = a.plus(b).over(a.less(b));
            g[8] = a.by(UNIT.less(g[7]));
            Box through = tells(new Box(NIL, UNIT, UNIT, NIL));
            C c = through.s11.less(g[0]);
            g[4] = c.over(g[2].plus(c.by(g[1])));
            g[5] = through.s21.less(g[3]).by(UNIT.less(g[1].by(g[4])));
            c = through.s22.less(g[6]);
            g[10] = c.over(g[8].plus(c.by(g[7])));
            g[11] = through.s12.less(g[9]).by(UNIT.less(g[7].by(g[10])));
            leave();
            now = now.with(new ArrayList<>(Arrays.asList(g)));
            int met = 0;
            for (int k = 0; k < 12; k++) {
                met += g[k].equals(e(k)) ? 1 : 0;
            }
            return met;
        }

        int learnt(int k) {
            within(k, 12);
            return now.g == null ? -1 : now.g.get(k).told();
        }

        int reads(int number) {
            Box s = at(number);
            need(now.g != null, NO);
            Box m = tells(s);
            List<C> g = now.g;
            C n11 = m.s11.less(g.get(0)).over(g.get(2));
            C n21 = m.s21.less(g.get(3)).over(g.get(5));
            C n22 = m.s22.less(g.get(6)).over(g.get(8));
            C n12 = m.s12.less(g.get(9)).over(g.get(11));
            C first = UNIT.plus(n11.by(g.get(1)));
            C second = UNIT.plus(n22.by(g.get(7)));
            C q = first.by(second).less(n21.by(n12).by(g.get(4)).by(g.get(10)));
            C s11 = n11.by(second).less(g.get(4).by(n21).by(n12)).over(q);
            C s21 = UNIT.plus(n22.by(g.get(7).less(g.get(4)))).by(n21).over(q);
            C s12 = UNIT.plus(n11.by(g.get(1).less(g.get(10)))).by(n12).over(q);
            C s22 = n22.by(first).less(g.get(10).by(n21).by(n12)).over(q);
            return add(new Box(s11, s12, s21, s22));
        }

        static C[][] transfer(Box s) {
            return new C[][] {{NIL.less(s.det()).over(s.s21), s.s11.over(s.s21)},
                {NIL.less(s.s22).over(s.s21), UNIT.over(s.s21)}};
        }

        static Box boxOf(C[][] t) {
            C t3 = t[1][1];
            return new Box(t[0][1].over(t3), t[0][0].by(t3).less(t[0][1].by(t[1][0])).over(t3),
                UNIT.over(t3), NIL.less(t[1][0]).over(t3));
        }

        static C[][] product(C[][] a, C[][] b) {
            C[][] all = {{NIL, NIL}, {NIL, NIL}};
            for (int i = 0; i < 2; i++) {
                for (int j = 0; j < 2; j++) {
                    for (int k = 0; k < 2; k++) {
                        all[i][j] = all[i][j].plus(a[i][k].by(b[k][j]));
                    }
                }
            }
            return all;
        }

        static C[][] inverse(C[][] t) {
            C n = t[0][0].by(t[1][1]).less(t[0][1].by(t[1][0]));
            return new C[][] {{t[1][1].over(n), NIL.less(t[0][1]).over(n)},
                {NIL.less(t[1][0]).over(n), t[0][0].over(n)}};
        }

        int chains(int a, int b) {
            Box first = at(a);
            Box second = at(b);
            return add(boxOf(product(transfer(first), transfer(second))));
        }

        int peels(int m, int a, int b) {
            Box middle = at(m);
            Box left = at(a);
            Box right = at(b);
            return add(boxOf(product(product(inverse(transfer(left)), transfer(middle)), inverse(transfer(right)))));
        }

        int turns(int b) {
            Box s = at(b);
            return add(new Box(s.s22, s.s21, s.s12, s.s11));
        }

        int form(int b, int f, int k) {
            Box s = at(b);
            need(f >= 1 && f <= 3, BAD);
            within(k, 4);
            C[][] t = f == 1 ? transfer(s) : f == 2 ? second(s) : inverse(second(s));
            return t[k / 2][k % 2].told();
        }

        static C[][] second(Box s) {
            C both = s.s12.by(s.s21);
            C n = UNIT.less(s.s11).by(UNIT.less(s.s22)).less(both);
            return new C[][] {
                {UNIT.plus(s.s11).by(UNIT.less(s.s22)).plus(both).over(n), C.real(2).by(s.s12).over(n)},
                {C.real(2).by(s.s21).over(n), UNIT.less(s.s11).by(UNIT.plus(s.s22)).plus(both).over(n)}};
        }

        int det(int b) {
            return at(b).det().told();
        }

        int ends(int b, int side, int x, int y) {
            Box s = at(b);
            within(side, 2);
            C z = given(x, y);
            C both = s.s12.by(s.s21).by(z);
            return (side == 0 ? s.s11.plus(both.over(UNIT.less(s.s22.by(z))))
                : s.s22.plus(both.over(UNIT.less(s.s11.by(z))))).told();
        }

        int test(int b, int what) {
            Box s = at(b);
            within(what, 4);
            boolean holds = switch (what) {
                case 0 -> s.s12.equals(s.s21);
                case 1 -> s.s11.equals(s.s22);
                case 2 -> s.s11.equals(NIL) && s.s22.equals(NIL);
                default -> s.s11.bar().by(s.s11).plus(s.s21.bar().by(s.s21)).equals(UNIT)
                    && s.s12.bar().by(s.s12).plus(s.s22.bar().by(s.s22)).equals(UNIT)
                    && s.s11.bar().by(s.s12).plus(s.s21.bar().by(s.s22)).equals(NIL);
            };
            return holds ? 1 : 0;
        }

        int like(int b) {
            return now.boxes.indexOf(at(b));
        }

        int type(int c) {
            within(c, 128);
            need(text.length() < 120, FULL);
            text.append((char) c);
            return text.length();
        }

        int clear() {
            int had = text.length();
            text.setLength(0);
            return had;
        }

        private static final String N = "[0-9]{1,5}";
        private static final String ORDER = "(?:b *" + N + "(?: +" + N + "){7} *;|e *" + N + "(?: +" + N + "){2} *;"
            + "|l *;|r *" + N + " *;|c *" + N + " +" + N + " *;)";
        private static final Pattern WHOLE = Pattern.compile(" *(?:" + ORDER + " *)+");
        private static final Pattern ONE = Pattern.compile(ORDER);

        /** A byte can stand where it is, if what is up to it can be the beginning of a right text. */
        static int faultOf(String text) {
            if (WHOLE.matcher(text).matches()) {
                return -1;
            }
            for (int end = 1; end <= text.length(); end++) {
                Matcher m = WHOLE.matcher(text.substring(0, end));
                if (!m.matches() && !m.hitEnd()) {
                    return end - 1;
                }
            }
            return text.length();
        }

        int does() {
            int fault = faultOf(text.toString());
            if (fault >= 0) {
                return -10 - fault;
            }
            Snapshot before = now.copy();
            Matcher orders = ONE.matcher(text.toString());
            int done = 0;
            quiet = true;
            try {
                while (orders.find()) {
                    obey(orders.group());
                    done++;
                }
            } catch (Refused r) {
                now = before;
                return -1000 - done;
            } finally {
                quiet = false;
            }
            past.addLast(before);
            if (past.size() > 5) {
                past.removeFirst();
            }
            return done;
        }

        void obey(String order) {
            List<Integer> n = new ArrayList<>();
            for (String figures : order.split("[^0-9]+")) {
                if (!figures.isEmpty()) {
                    n.add(Integer.valueOf(figures));
                }
            }
            switch (order.charAt(0)) {
                case 'b' -> add(new Box(given(n.get(0), n.get(1)), given(n.get(2), n.get(3)),
                    given(n.get(4), n.get(5)), given(n.get(6), n.get(7))));
                case 'e' -> errs(n.get(0), n.get(1), n.get(2));
                case 'l' -> learns();
                case 'r' -> reads(n.get(0));
                default -> chains(n.get(0), n.get(1));
            }
        }

        int back() {
            need(!past.isEmpty(), NO);
            now = past.removeLast();
            return past.size();
        }

        int count(int what) {
            within(what, 7);
            return switch (what) {
                case 0 -> now.boxes.size();
                case 1 -> now.g == null ? 0 : 1;
                case 5 -> text.length();
                case 6 -> past.size();
                default -> refusals[what - 2];
            };
        }

        long digest() {
            List<Integer> all = new ArrayList<>();
            for (int what = 0; what < 7; what++) {
                all.add(count(what));
            }
            for (int b = 0; b < now.boxes.size(); b++) {
                for (C z : now.boxes.get(b).all()) {
                    all.add(z.told());
                }
                all.add(det(b));
                for (int what = 0; what < 4; what++) {
                    all.add(test(b, what));
                }
                all.add(like(b));
            }
            for (int k = 0; k < 12; k++) {
                all.add(error(k));
            }
            for (int k = 0; k < 12; k++) {
                all.add(learnt(k));
            }
            long h = 2693;
            for (int v : all) {
                h = 31 * h + v;
            }
            return h;
        }
    }
}
