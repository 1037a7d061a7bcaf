import java.util.ArrayList;
import java.util.Arrays;
import java.util.List;
import java.util.Random;

/**
 * All promises at once: runs of calls by fixed seeds, each answer compared with that of a second program, which
 * is written from the document with lists and objects and shares nothing with the class.
 */
public final class ModelTest {
    private static final int RUNS = 4000;

    public static void main(String[] args) {
        int[] seen = new int[4];
        for (int seed = 0; seed < RUNS; seed++) {
            new Pair(seed).go(seen);
        }
        Due.holds("many codes are MADE", seen[0] > RUNS);
        Due.holds("many FRAMES are refused", seen[1] > RUNS);
        Due.holds("many runs RETURN", seen[2] > RUNS);
        Due.holds("many runs end by what is THROWN", seen[3] > RUNS / 4);
        Due.end();
    }

    /** The class and the model, given the same calls. */
    private static final class Pair {
        private final ClassFrames x = new ClassFrames();
        private final Model m = new Model();
        private final Random random;
        private final String name;
        private int calls;

        Pair(int seed) {
            random = new Random(seed);
            name = "seed " + seed;
        }

        private int below(int n) {
            return random.nextInt(n);
        }

        private void due(String call, long got, long want) {
            calls++;
            Due.is(name + ", call " + calls + ": " + call, got, want);
        }

        void go(int[] seen) {
            while (calls < 450) {
                build();
                int made = m.make();
                due("make()", x.make(), made);
                due("fault()", x.fault(), m.fault);
                due("count(5)", x.count(5), m.rounds);
                seen[0] += made >= 0 ? 1 : 0;
                if (made >= 0) {
                    look();
                    plant(seen);
                }
                runs(seen);
                if (below(3) == 0) {
                    odd();
                }
                if (below(4) != 0) {
                    due("clear()", x.clear(), m.clear());
                }
            }
        }

        private void build() {
            int parameters = below(4);
            for (int i = 0; i < parameters; i++) {
                int kind = below(12) == 0 ? below(11) - 1 : new int[] {1, 2, 5, 6, 7, 8}[below(6)];
                due("parameter(" + kind + ")", x.parameter(kind), m.parameter(kind));
            }
            int many = 2 + below(14);
            List<Integer> guess = new ArrayList<>();
            for (int i = 0; i < many; i++) {
                add(i + 1 == many && below(8) != 0 ? 23 : pick(guess), many);
            }
            int handlers = Math.max(0, below(5) - 2);
            for (int h = 0; h < handlers; h++) {
                int from = below(many);
                int to = from + below(many - from + 1);
                int at = below(many + 1);
                int kind = below(15) == 0 ? 6 : 7 + below(2);
                due("handler(" + from + ", " + to + ", " + at + ", " + kind + ")", x.handler(from, to, at, kind),
                        m.handler(from, to, at, kind));
            }
        }

        private void add(int op, int many) {
            int a = op >= 24 && op <= 27 ? below(many + (below(6) == 0 ? 2 : 0)) : op == 21 ? 5 + below(4) : below(op == 1 ? 4 : 8);
            int b = op == 27 ? below(many) : below(3) - 1;
            if (below(40) == 0) {
                a = random.nextInt();
            }
            due("operation(" + op + ", " + a + ", " + b + ")", x.operation(op, a, b), m.operation(op, a, b));
        }

        /** An op that often fits what lies on the STACK, were the code gone along. */
        private int pick(List<Integer> guess) {
            int[] reckon = {7, 12, 13, 14, 15, 16, 17, 18, 19, 20, 21};
            for (int tries = 0; tries < 9; tries++) {
                int op = tries < 3 ? reckon[below(reckon.length)] : below(29);
                String takes = Model.TAKES[op];
                boolean fits = takes.length() <= guess.size();
                for (int i = 0; fits && i < takes.length(); i++) {
                    int told = takes.charAt(takes.length() - 1 - i) - '0';
                    int found = guess.get(guess.size() - 1 - i);
                    fits = told == 0 || (told == 4 ? found >= 4 : Model.goesAs(found, told));
                }
                if (fits) {
                    for (int i = 0; i < takes.length(); i++) {
                        guess.remove(guess.size() - 1);
                    }
                    String gives = Model.GIVES[op];
                    for (int i = 0; i < gives.length(); i++) {
                        guess.add(gives.charAt(i) - '0');
                    }
                    return op;
                }
            }
            return below(5);
        }

        private void look() {
            int many = m.ops.size();
            for (int t = 0; t < 12; t++) {
                int at = below(many + 1);
                int i = below(15) - 1;
                due("kind(" + at + ", " + i + ")", x.kind(at, i), m.kind(at, i));
                due("size(" + at + ")", x.size(at), m.size(at));
            }
            for (int what = -1; what <= 6; what++) {
                due("count(" + what + ")", x.count(what), m.count(what));
            }
            for (int f = 0; f <= m.frames.size(); f++) {
                for (int what = 0; what < 17; what++) {
                    due("frame(" + f + ", " + what + ")", x.frame(f, what), m.frame(f, what));
                }
            }
            due("judge()", x.judge(), 1);
            pack();
        }

        private void pack() {
            due("packed()", x.packed(), m.packed());
            for (int i = -1; i <= m.bytes.size(); i++) {
                boolean there = i >= 0 && i < m.bytes.size();
                due("out(" + i + ")", Due.byteOrThrown(x, i), there ? m.bytes.get(i) : -100);
            }
        }

        private void plant(int[] seen) {
            for (int t = 0; t < 8; t++) {
                int f = below(m.frames.size() + 1);
                int i = below(6);
                int kind = below(10);
                due("plant(" + f + ", " + i + ", " + kind + ")", x.plant(f, i, kind), m.plant(f, i, kind));
                int judged = m.judge();
                due("judge()", x.judge(), judged);
                seen[1] += judged < 0 ? 1 : 0;
                if (below(3) == 0) {
                    pack();
                }
                if (below(3) == 0) {
                    due("make()", x.make(), m.make());
                }
            }
        }

        private void runs(int[] seen) {
            for (int t = 0; t < 4; t++) {
                int i = below(9);
                long v = below(4) == 0 ? random.nextLong() : below(5) - 1;
                due("argument(" + i + ", " + v + ")", x.argument(i, v), m.argument(i, v));
                int steps = below(3) == 0 ? below(8) : 300;
                int how = m.run(steps);
                due("run(" + steps + ")", x.run(steps), how);
                due("fault()", x.fault(), m.fault);
                for (int what = -1; what <= 5; what++) {
                    due("told(" + what + ")", x.told(what), m.told(what));
                }
                seen[2] += how == 0 ? 1 : 0;
                seen[3] += how == 1 ? 1 : 0;
            }
        }

        private int anything() {
            return below(3) == 0 ? random.nextInt() : below(70) - 5;
        }

        /** Numbers of any size: answers alone come back. */
        private void odd() {
            int p = anything();
            int q = anything();
            int r = anything();
            due("kind", x.kind(p, q), m.kind(p, q));
            due("size", x.size(p), m.size(p));
            due("frame", x.frame(p, q), m.frame(p, q));
            due("plant", x.plant(p, q, r), m.plant(p, q, r));
            due("count", x.count(p), m.count(p));
            due("told", x.told(p), m.told(p));
            due("parameter", x.parameter(p), m.parameter(p));
            due("handler", x.handler(p, q, r, 7), m.handler(p, q, r, 7));
            due("operation", x.operation(p, q, r), m.operation(p, q, r));
            due("make()", x.make(), m.make());
            due("judge()", x.judge(), m.judge());
            due("packed()", x.packed(), m.packed());
            due("run", x.run(p), m.run(p));
            due("fault()", x.fault(), m.fault);
        }
    }

    /** LOCALS and a STACK with their kinds. */
    private static final class Kinds {
        final int[] locals = new int[8];
        final List<Integer> stack = new ArrayList<>();

        Kinds copy() {
            Kinds other = new Kinds();
            System.arraycopy(locals, 0, other.locals, 0, 8);
            other.stack.addAll(stack);
            return other;
        }

        Kinds thrown(int kind) {
            Kinds other = copy();
            other.stack.clear();
            other.stack.add(kind);
            return other;
        }

        boolean goesAs(Kinds other) {
            boolean so = stack.size() == other.stack.size();
            for (int i = 0; so && i < stack.size(); i++) {
                so = Model.goesAs(stack.get(i), other.stack.get(i));
            }
            for (int i = 0; so && i < 8; i++) {
                so = Model.goesAs(locals[i], other.locals[i]);
            }
            return so;
        }

        void mend() {
            for (int i = 0; i < 8; i++) {
                if (locals[i] == 2 && (i == 7 || locals[i + 1] != 3) || locals[i] == 3 && (i == 0 || locals[i - 1] != 2)) {
                    locals[i] = 0;
                }
            }
        }
    }

    private static final class Frame {
        int place;
        int many;
        Kinds kinds;
    }

    private static final class Thing {
        int kind;
        int code;
        int[] cells;
    }

    /** The second program. */
    private static final class Model {
        /** From the left to the right as in the document; 0 any, 4 any REFERENCE. 8 to 11 and 28 are told by hand. */
        static final String[] TAKES = {"", "", "", "", "", "", "", "1", "", "0", "0", "00", "11", "11", "2323", "23", "1", "61",
            "611", "6", "7", "4", "7", "", "", "1", "4", "1", ""};
        static final String[] GIVES = {"", "1", "23", "4", "5", "7", "8", "6", "1", "", "", "", "1", "1", "23", "1", "23", "1", "",
            "1", "1", "5", "", "", "", "", "", "", ""};

        final List<int[]> ops = new ArrayList<>();
        final List<int[]> handlers = new ArrayList<>();
        final List<Integer> parameters = new ArrayList<>();
        final long[] arguments = new long[8];
        Kinds[] states;
        List<Frame> frames = new ArrayList<>();
        List<Integer> bytes = new ArrayList<>();
        boolean made;
        boolean changed;
        int fault;
        int rounds;
        int thrown;
        boolean went;
        long[] told;

        static boolean goesAs(int p, int q) {
            return p == q || q == 0 || p == 4 && q >= 5 || (p == 6 || p == 7) && q == 5 || p == 8 && (q == 7 || q == 5);
        }

        static int joined(int p, int q) {
            for (int kind : new int[] {4, 8, 6, 7, 5, 1, 2, 3}) {
                if (goesAs(p, kind) && goesAs(q, kind)) {
                    return kind;
                }
            }
            return 0;
        }

        int parameter(int kind) {
            if (kind < 1 || kind > 8 || kind == 3 || kind == 4) {
                return -2;
            }
            int at = parameters.size();
            if (at + (kind == 2 ? 2 : 1) > 8) {
                return -4;
            }
            parameters.add(kind);
            if (kind == 2) {
                parameters.add(3);
            }
            made = false;
            return at;
        }

        int operation(int op, int a, int b) {
            if (op < 0 || op > 28 || op == 21 && (a < 5 || a > 8)) {
                return -2;
            }
            if (ops.size() == 60) {
                return -4;
            }
            made = false;
            ops.add(new int[] {op, a, b});
            return ops.size() - 1;
        }

        int handler(int from, int to, int at, int kind) {
            if (Math.min(from, Math.min(to, at)) < 0 || Math.max(from, Math.max(to, at)) > 60 || kind != 7 && kind != 8) {
                return -2;
            }
            if (handlers.size() == 6) {
                return -4;
            }
            made = false;
            handlers.add(new int[] {from, to, at, kind});
            return handlers.size() - 1;
        }

        int clear() {
            int many = ops.size();
            ops.clear();
            handlers.clear();
            parameters.clear();
            made = false;
            return many;
        }

        private Kinds first() {
            Kinds kinds = new Kinds();
            for (int i = 0; i < parameters.size(); i++) {
                kinds.locals[i] = parameters.get(i);
            }
            return kinds;
        }

        /** What the op does to kinds: 0, or the FAULT OF CODE. */
        private static int apply(Kinds k, int op, int a) {
            List<Integer> s = k.stack;
            int top = s.isEmpty() ? -1 : s.get(s.size() - 1);
            String gives = GIVES[op];
            if (op == 9 || op == 10) {
                if (top == -1) {
                    return 2;
                }
                if (op == 10) {
                    return top == 3 ? 1 : drop(s, 1);
                }
                if (top == 0) {
                    return 1;
                }
                drop(s, top == 3 ? 2 : 1);
                if (a < 0 || a > 7 || top == 3 && a == 7) {
                    return 4;
                }
                k.locals[a] = top == 3 ? 2 : top;
                if (top == 3) {
                    k.locals[a + 1] = 3;
                }
                k.mend();
                return 0;
            }
            if (op == 11) {
                return s.size() < 2 ? 2 : s.get(s.size() - 2) == 3 ? 1 : drop(s, 2);
            }
            if (op == 8 || op == 28) {
                if (a < 0 || a > 7) {
                    return 4;
                }
                int kind = k.locals[a];
                if (op == 28 ? kind != 1 : kind == 0 || kind == 3) {
                    return 1;
                }
                gives = op == 28 ? "" : kind == 2 ? "23" : "" + kind;
            }
            for (int i = TAKES[op].length() - 1; op != 8 && op != 28 && i >= 0; i--) {
                int told = TAKES[op].charAt(i) - '0';
                if (s.isEmpty()) {
                    return 2;
                }
                int found = s.get(s.size() - 1);
                if (told == 4 ? found < 4 : !goesAs(found, told)) {
                    return 1;
                }
                drop(s, 1);
            }
            gives = op == 21 ? "" + a : gives;
            for (int i = 0; i < gives.length(); i++) {
                s.add(gives.charAt(i) - '0');
            }
            return s.size() > 6 ? 3 : 0;
        }

        private static int drop(List<Integer> stack, int many) {
            for (int i = 0; i < many; i++) {
                stack.remove(stack.size() - 1);
            }
            return 0;
        }

        private int[] targets(int[] row) {
            return row[0] == 27 ? new int[] {row[1], row[2]} : row[0] >= 24 && row[0] <= 26 ? new int[] {row[1]} : new int[0];
        }

        private static boolean goesOn(int[] row) {
            return row[0] != 22 && row[0] != 23 && row[0] != 24;
        }

        private int join(int at, Kinds came) {
            if (at < 0 || at >= ops.size()) {
                return 7;
            }
            if (states[at] == null) {
                states[at] = came.copy();
                changed = true;
                return 0;
            }
            Kinds there = states[at];
            if (there.stack.size() != came.stack.size()) {
                return 5;
            }
            for (int i = 0; i < 8; i++) {
                int both = joined(there.locals[i], came.locals[i]);
                changed |= both != there.locals[i];
                there.locals[i] = both;
            }
            for (int i = 0; i < came.stack.size(); i++) {
                int both = joined(there.stack.get(i), came.stack.get(i));
                changed |= both != there.stack.get(i);
                there.stack.set(i, both);
            }
            return 0;
        }

        private int work(int p) {
            int wrong = 0;
            for (int[] h : handlers) {
                if (wrong == 0 && h[0] <= p && p < h[1]) {
                    wrong = join(h[2], states[p].thrown(h[3]));
                }
            }
            Kinds now = states[p].copy();
            int[] row = ops.get(p);
            wrong = wrong != 0 ? wrong : apply(now, row[0], row[1]);
            for (int to : targets(row)) {
                wrong = wrong != 0 ? wrong : join(to, now);
            }
            if (wrong == 0 && goesOn(row)) {
                wrong = p + 1 == ops.size() ? 6 : join(p + 1, now);
            }
            return wrong;
        }

        int make() {
            made = false;
            rounds = 0;
            states = new Kinds[60];
            fault = ops.isEmpty() ? 6 : 0;
            if (fault != 0) {
                return -9;
            }
            states[0] = first();
            do {
                changed = false;
                rounds++;
                for (int p = 0; p < ops.size(); p++) {
                    fault = states[p] == null ? 0 : work(p);
                    if (fault != 0) {
                        return -10 - p;
                    }
                }
            } while (changed);
            made = true;
            return gather();
        }

        private int gather() {
            boolean[] has = new boolean[60];
            for (int[] h : handlers) {
                if (h[2] < 60) {
                    has[h[2]] = true;
                }
            }
            for (int p = 0; p < ops.size(); p++) {
                for (int to : targets(ops.get(p))) {
                    if (states[p] != null) {
                        has[to] = true;
                    }
                }
                if (p > 0 && (states[p - 1] == null || !goesOn(ops.get(p - 1)))) {
                    has[p] = true;
                }
            }
            frames = new ArrayList<>();
            for (int p = 0; p < ops.size(); p++) {
                if (has[p] && states[p] != null) {
                    Frame f = new Frame();
                    f.place = p;
                    f.kinds = states[p].copy();
                    for (int i = 0; i < 8; i++) {
                        f.many = f.kinds.locals[i] != 0 ? i + 1 : f.many;
                    }
                    frames.add(f);
                }
            }
            return frames.size();
        }

        private boolean isPlace(int at) {
            return at >= 0 && at < ops.size();
        }

        int kind(int at, int i) {
            if (!isPlace(at) || !made) {
                return isPlace(at) ? -3 : -2;
            }
            if (states[at] == null || i < 0 || i - 8 >= states[at].stack.size()) {
                return -1;
            }
            return i < 8 ? states[at].locals[i] : states[at].stack.get(i - 8);
        }

        int size(int at) {
            if (!isPlace(at) || !made) {
                return isPlace(at) ? -3 : -2;
            }
            return states[at] == null ? -1 : states[at].stack.size();
        }

        int frame(int f, int what) {
            if (f < 0 || what < 0) {
                return -2;
            }
            if (!made || f >= frames.size()) {
                return made ? -1 : -3;
            }
            Frame one = frames.get(f);
            List<Integer> all = new ArrayList<>(List.of(one.place, one.many, one.kinds.stack.size()));
            for (int i = 0; i < one.many; i++) {
                all.add(one.kinds.locals[i]);
            }
            all.addAll(one.kinds.stack);
            return what < all.size() ? all.get(what) : -1;
        }

        int plant(int f, int i, int kind) {
            if (f < 0 || i < 0 || kind < 0 || kind > 8) {
                return -2;
            }
            int before = i > 20 ? (made ? -1 : -3) : frame(f, 3 + i);
            if (before >= 0) {
                Frame one = frames.get(f);
                if (i < one.many) {
                    one.kinds.locals[i] = kind;
                } else {
                    one.kinds.stack.set(i - one.many, kind);
                }
            }
            return before;
        }

        private static boolean torn(List<Integer> kinds) {
            int half = 0;
            for (int kind : kinds) {
                if ((kind == 3) != (half == 1)) {
                    return true;
                }
                half = kind == 2 ? 1 : 0;
            }
            return half == 1;
        }

        private static List<Integer> list(int[] kinds) {
            List<Integer> all = new ArrayList<>();
            Arrays.stream(kinds).forEach(all::add);
            return all;
        }

        private Kinds frameAt(int place) {
            for (Frame f : frames) {
                if (f.place == place) {
                    return f.kinds;
                }
            }
            return null;
        }

        int judge() {
            if (!made) {
                return -3;
            }
            for (Frame f : frames) {
                if (torn(list(f.kinds.locals)) || torn(f.kinds.stack)) {
                    return -10 - f.place;
                }
            }
            Kinds now = first();
            for (int p = 0; p < ops.size(); p++) {
                if (states[p] == null) {
                    now = null;
                    continue;
                }
                Kinds there = frameAt(p);
                if (now != null && there != null && !now.goesAs(there)) {
                    return -10 - p;
                }
                now = there == null ? now : there.copy();
                boolean so = true;
                for (int[] h : handlers) {
                    so &= p < h[0] || p >= h[1] || now.thrown(h[3]).goesAs(frameAt(h[2]));
                }
                so = so && apply(now, ops.get(p)[0], ops.get(p)[1]) == 0;
                for (int to : targets(ops.get(p))) {
                    so = so && now.goesAs(frameAt(to));
                }
                if (!so) {
                    return -10 - p;
                }
                now = goesOn(ops.get(p)) ? now : null;
            }
            return 1;
        }

        private static List<Integer> entries(List<Integer> kinds) {
            List<Integer> all = new ArrayList<>();
            for (int i = 0; i < kinds.size(); i++) {
                all.add(kinds.get(i));
                i += kinds.get(i) == 2 && i + 1 < kinds.size() && kinds.get(i + 1) == 3 ? 1 : 0;
            }
            return all;
        }

        private void write(List<Integer> entries) {
            for (int kind : entries) {
                switch (kind) {
                    case 0, 1 -> bytes.add(kind);
                    case 2 -> bytes.add(4);
                    case 4 -> bytes.add(5);
                    default -> bytes.addAll(List.of(7, 0, kind));
                }
            }
        }

        int packed() {
            if (!made) {
                return -3;
            }
            bytes = new ArrayList<>();
            List<Integer> ahead = entries(parameters);
            int last = -1;
            for (Frame f : frames) {
                int distance = f.place - last - 1;
                List<Integer> locals = entries(list(Arrays.copyOf(f.kinds.locals, f.many)));
                List<Integer> stack = entries(f.kinds.stack);
                int less = ahead.size() - locals.size();
                if (locals.equals(ahead) && stack.size() <= 1) {
                    bytes.add(64 * stack.size() + distance);
                    write(stack);
                } else if (stack.isEmpty() && less >= 1 && less <= 3 && ahead.subList(0, locals.size()).equals(locals)) {
                    bytes.addAll(List.of(251 - less, 0, distance));
                } else if (stack.isEmpty() && less <= -1 && less >= -3 && locals.subList(0, ahead.size()).equals(ahead)) {
                    bytes.addAll(List.of(251 - less, 0, distance));
                    write(locals.subList(ahead.size(), locals.size()));
                } else {
                    bytes.addAll(List.of(255, 0, distance, 0, locals.size()));
                    write(locals);
                    bytes.addAll(List.of(0, stack.size()));
                    write(stack);
                }
                ahead = locals;
                last = f.place;
            }
            return bytes.size();
        }

        long argument(int i, long v) {
            if (i < 0 || i > 7) {
                return -2;
            }
            long before = arguments[i];
            arguments[i] = v;
            return before;
        }

        int count(int what) {
            int dead = 0;
            for (int p = 0; made && p < ops.size(); p++) {
                dead += states[p] == null ? 1 : 0;
            }
            int[] all = {ops.size(), handlers.size(), parameters.size(), made ? frames.size() : 0, dead, rounds};
            return what >= 0 && what < 6 ? all[what] : -2;
        }

        private static Object fresh(int kind, int code, int cells) {
            Thing one = new Thing();
            one.kind = kind;
            one.code = code;
            one.cells = new int[cells];
            return one;
        }

        /** HALF stands as "half", NIL as "nil", TOP as null. */
        private static int kindOf(Object v) {
            if (v instanceof Thing) {
                return ((Thing) v).kind;
            }
            return v == null ? 0 : v instanceof Integer ? 1 : v instanceof Long ? 2 : v.equals("half") ? 3 : 4;
        }

        private Object[] locals() {
            Object[] locals = new Object[8];
            for (int i = 0; i < parameters.size(); i++) {
                long v = arguments[i];
                switch (parameters.get(i)) {
                    case 1 -> locals[i] = (int) v;
                    case 2 -> locals[i] = v;
                    case 3 -> locals[i] = "half";
                    default -> locals[i] = v < 0 ? "nil" : fresh(parameters.get(i), 0, (int) (v & 7));
                }
            }
            return locals;
        }

        int run(int steps) {
            if (steps < 0 || steps > 300) {
                return -2;
            }
            if (thrown >= 1000) {
                return -4;
            }
            fault = 0;
            told = new long[] {-1, 0, 0, 0, 0};
            if (ops.isEmpty()) {
                fault = 6;
                told[2] = -1;
                return -9;
            }
            Object[] locals = locals();
            List<Object> stack = new ArrayList<>();
            int p = 0;
            for (int s = 0; s < steps; s++) {
                told[2] = p;
                told[3] = s + 1;
                Kinds kinds = new Kinds();
                for (int i = 0; i < 8; i++) {
                    kinds.locals[i] = kindOf(locals[i]);
                }
                stack.forEach(v -> kinds.stack.add(kindOf(v)));
                int[] row = ops.get(p);
                fault = apply(kinds, row[0], row[1]);
                if (fault != 0) {
                    return -10 - p;
                }
                if (row[0] == 23) {
                    tellTop(stack);
                    return 0;
                }
                int[] next = {p + 1};
                Thing up = step(row, locals, stack, next);
                boolean isThrown = up != null;
                if (isThrown) {
                    next[0] = taker(p, up);
                    if (next[0] < 0) {
                        told[4] = up.code;
                        return 1;
                    }
                    stack.clear();
                    stack.add(up);
                }
                p = next[0];
                if (!isPlace(p)) {
                    fault = went || isThrown ? 7 : 6;
                    return -10 - (int) told[2];
                }
                told[2] = p;
            }
            return 2;
        }

        private int taker(int p, Thing up) {
            for (int[] h : handlers) {
                if (h[0] <= p && p < h[1] && (h[3] == 7 || up.kind == 8)) {
                    return h[2];
                }
            }
            return -1;
        }

        private void tellTop(List<Object> stack) {
            if (stack.isEmpty()) {
                return;
            }
            Object v = stack.get(stack.size() - 1);
            v = kindOf(v) == 3 ? stack.get(stack.size() - 2) : v;
            told[0] = kindOf(v);
            told[1] = v instanceof Number ? ((Number) v).longValue() : 0;
            if (v instanceof Thing) {
                told[1] = kindOf(v) == 6 ? ((Thing) v).cells.length : kindOf(v) >= 7 ? ((Thing) v).code : 0;
            }
        }

        private Thing refused(int code) {
            thrown++;
            return (Thing) fresh(7, code, 0);
        }

        private static Object take(List<Object> stack) {
            Object v = stack.remove(stack.size() - 1);
            return kindOf(v) == 3 ? stack.remove(stack.size() - 1) : v;
        }

        private static void give(List<Object> stack, Object v) {
            stack.add(v);
            if (v instanceof Long) {
                stack.add("half");
            }
        }

        /** Does one whose kinds fit; what it throws. */
        private Thing step(int[] row, Object[] locals, List<Object> stack, int[] next) {
            int a = row[1];
            went = false;
            switch (row[0]) {
                case 1 -> give(stack, a);
                case 2 -> give(stack, (long) a);
                case 3 -> give(stack, "nil");
                case 4 -> give(stack, fresh(5, 0, 0));
                case 5 -> give(stack, fresh(7, 0, 0));
                case 6 -> give(stack, fresh(8, a, 0));
                case 7 -> {
                    int n = (Integer) take(stack);
                    if (n < 0 || n > 20) {
                        return refused(n < 0 ? 3 : 6);
                    }
                    give(stack, fresh(6, 0, n));
                }
                case 8 -> give(stack, locals[a]);
                case 9 -> store(locals, a, take(stack));
                case 10 -> take(stack);
                case 11 -> {
                    stack.remove(stack.size() - 1);
                    stack.remove(stack.size() - 1);
                }
                case 12 -> give(stack, (Integer) take(stack) + (Integer) take(stack));
                case 13 -> {
                    int by = (Integer) take(stack);
                    int of = (Integer) take(stack);
                    if (by == 0) {
                        return refused(5);
                    }
                    give(stack, of / by);
                }
                case 14 -> give(stack, (Long) take(stack) + (Long) take(stack));
                case 15 -> give(stack, ((Long) take(stack)).intValue());
                case 16 -> give(stack, ((Integer) take(stack)).longValue());
                case 17, 18 -> {
                    int v = row[0] == 18 ? (Integer) take(stack) : 0;
                    int i = (Integer) take(stack);
                    Object r = take(stack);
                    if (r.equals("nil")) {
                        return refused(1);
                    }
                    int[] cells = ((Thing) r).cells;
                    if (i < 0 || i >= cells.length) {
                        return refused(2);
                    }
                    if (row[0] == 18) {
                        cells[i] = v;
                    } else {
                        give(stack, cells[i]);
                    }
                }
                case 19, 20, 22 -> {
                    Object r = take(stack);
                    if (r.equals("nil")) {
                        return refused(1);
                    }
                    if (row[0] == 22) {
                        return (Thing) r;
                    }
                    give(stack, row[0] == 19 ? ((Thing) r).cells.length : ((Thing) r).code);
                }
                case 21 -> {
                    if (!goesAs(kindOf(stack.get(stack.size() - 1)), a)) {
                        return refused(4);
                    }
                }
                case 24 -> go(next, true, a);
                case 25 -> go(next, (Integer) take(stack) == 0, a);
                case 26 -> go(next, take(stack).equals("nil"), a);
                case 27 -> {
                    int v = (Integer) take(stack);
                    go(next, v == 0 || v == 1, v == 0 ? a : row[2]);
                }
                case 28 -> locals[a] = (Integer) locals[a] + row[2];
                default -> {
                }
            }
            return null;
        }

        private void go(int[] next, boolean goes, int to) {
            if (goes) {
                went = true;
                next[0] = to;
            }
        }

        private static void store(Object[] locals, int a, Object v) {
            locals[a] = v;
            if (v instanceof Long) {
                locals[a + 1] = "half";
            }
            for (int i = 0; i < 8; i++) {
                int kind = kindOf(locals[i]);
                if (kind == 2 && (i == 7 || kindOf(locals[i + 1]) != 3) || kind == 3 && (i == 0 || kindOf(locals[i - 1]) != 2)) {
                    locals[i] = null;
                }
            }
        }

        long told(int what) {
            return told == null || what < 0 || what > 4 ? 0 : told[what];
        }
    }
}
