import java.util.Arrays;

/**
 * Frames for a small code: worked out, packed, judged and run, as the document's promises 1 to 18 say.
 * All rows are made in constructors and used again, so that no call makes an object.
 */
public final class ClassFrames {
    public static final int NONE = -1, BAD = -2, STATE = -3, FULL = -4;

    private static final int TOP = 0, INT = 1, COUNT = 2, HALF = 3, NIL = 4, THING = 5, ROW = 6, FAULT = 7, MARK = 8;

    private static final int FINE = 0, WRONG = 1, EMPTY = 2, DEEP = 3, LOCAL = 4, UNLIKE = 5, END = 6, TARGET = 7;

    private static final int NEW_MARK = 6, NEW_ROW = 7, LOAD = 8, STORE = 9, POP = 10, POP2 = 11, CAST = 21,
            THROW = 22, RETURN = 23, GOTO = 24, IF_ZERO = 25, IF_NIL = 26, CHOOSE = 27, INC = 28;

    private static final int LOCALS = 8, STACK = 6, WIDTH = LOCALS + STACK;
    private static final int MOST_PLACES = 60, MOST_HANDLERS = 6, MOST_STEPS = 300, MOST_CELLS = 20,
            MOST_REFUSALS = 1000;

    private final Code code;
    private final Frames frames;
    private final Maker maker;
    private final Judge judge;
    private final Packer packer;
    private final Machine machine;
    private int latestFault;

    public ClassFrames() {
        code = new Code();
        frames = new Frames();
        maker = new Maker(code, frames);
        judge = new Judge(code, maker, frames);
        packer = new Packer(code, frames);
        machine = new Machine(code);
    }

    public int parameter(int kind) {
        if (kind != INT && kind != COUNT && (kind < THING || kind > MARK)) {
            return BAD;
        }
        int local = code.addParameter(kind);
        if (local != FULL) {
            maker.undo();
        }
        return local;
    }

    public int operation(int op, int a, int b) {
        if (op < 0 || op > INC || (op == CAST && (a < THING || a > MARK))) {
            return BAD;
        }
        int place = code.addInstruction(op, a, b);
        if (place != FULL) {
            maker.undo();
        }
        return place;
    }

    public int handler(int from, int to, int at, int kind) {
        if (!isBound(from) || !isBound(to) || !isBound(at) || (kind != FAULT && kind != MARK)) {
            return BAD;
        }
        int number = code.addHandler(from, to, at, kind);
        if (number != FULL) {
            maker.undo();
        }
        return number;
    }

    public int make() {
        latestFault = maker.workOut();
        return latestFault == FINE ? frames.howMany() : refusedAt(maker.faultPlace());
    }

    public int fault() {
        return latestFault;
    }

    public int kind(int at, int i) {
        if (!code.hasPlace(at)) {
            return BAD;
        }
        if (!maker.isMade()) {
            return STATE;
        }
        return i >= 0 && i < LOCALS + maker.depthAt(at) ? maker.kindAt(at, i) : NONE;
    }

    public int size(int at) {
        if (!code.hasPlace(at)) {
            return BAD;
        }
        return maker.isMade() ? maker.depthAt(at) : STATE;
    }

    public int frame(int f, int what) {
        if (f < 0 || what < 0) {
            return BAD;
        }
        if (!maker.isMade()) {
            return STATE;
        }
        return frames.tell(f, what);
    }

    public int plant(int f, int i, int kind) {
        if (f < 0 || i < 0 || kind < TOP || kind > MARK) {
            return BAD;
        }
        if (!maker.isMade()) {
            return STATE;
        }
        return frames.change(f, i, kind);
    }

    public int judge() {
        if (!maker.isMade()) {
            return STATE;
        }
        int place = judge.firstRefused();
        return place == NONE ? 1 : refusedAt(place);
    }

    public int packed() {
        return maker.isMade() ? packer.pack() : STATE;
    }

    public int out(int i) throws ArrayIndexOutOfBoundsException {
        if (i < 0 || i >= packer.howMany()) {
            throw new ArrayIndexOutOfBoundsException("no such byte was packed");
        }
        return packer.byteAt(i);
    }

    public long argument(int i, long v) {
        return machine.changeArgument(i, v);
    }

    public int run(int steps) {
        if (steps < 0 || steps > MOST_STEPS) {
            return BAD;
        }
        if (machine.isFull()) {
            return FULL;
        }
        machine.go(steps);
        latestFault = machine.codeFault();
        return latestFault == FINE ? machine.outcome() : refusedAt(machine.endPlace());
    }

    public long told(int what) {
        return machine.tell(what);
    }

    public int count(int what) {
        switch (what) {
            case 0:
                return code.places();
            case 1:
                return code.handlers();
            case 2:
                return code.filledLocals();
            case 3:
                return maker.isMade() ? frames.howMany() : 0;
            case 4:
                return maker.isMade() ? maker.deadPlaces() : 0;
            case 5:
                return maker.rounds();
            default:
                return BAD;
        }
    }

    public int clear() {
        int before = code.places();
        code.forget();
        maker.undo();
        return before;
    }

    private static boolean isBound(int place) {
        return place >= 0 && place <= MOST_PLACES;
    }

    private static int refusedAt(int place) {
        return -10 - place;
    }

    /** What holds between kinds. */
    private static final class Kinds {
        static boolean goesAs(int one, int other) {
            if (one == other || other == TOP) {
                return true;
            }
            switch (one) {
                case NIL:
                    return other >= THING;
                case ROW:
                case FAULT:
                    return other == THING;
                case MARK:
                    return other == FAULT || other == THING;
                default:
                    return false;
            }
        }

        static int joined(int one, int other) {
            if (goesAs(one, other)) {
                return other;
            }
            if (goesAs(other, one)) {
                return one;
            }
            return one >= THING && other >= THING ? THING : TOP;
        }
    }

    /** CODE, HANDLERS and PARAMETERS. */
    private static final class Code {
        private final int[] ops = new int[MOST_PLACES];
        private final int[] firsts = new int[MOST_PLACES];
        private final int[] seconds = new int[MOST_PLACES];
        private int places;
        private final int[] froms = new int[MOST_HANDLERS];
        private final int[] tos = new int[MOST_HANDLERS];
        private final int[] ats = new int[MOST_HANDLERS];
        private final int[] kinds = new int[MOST_HANDLERS];
        private int handlers;
        private final int[] parameters = new int[LOCALS];
        private int filled;

        int addParameter(int kind) {
            int wide = kind == COUNT ? 2 : 1;
            if (filled + wide > LOCALS) {
                return FULL;
            }
            int local = filled;
            parameters[local] = kind;
            if (wide == 2) {
                parameters[local + 1] = HALF;
            }
            filled += wide;
            return local;
        }

        int addInstruction(int op, int a, int b) {
            if (places >= MOST_PLACES) {
                return FULL;
            }
            ops[places] = op;
            firsts[places] = a;
            seconds[places] = b;
            return places++;
        }

        int addHandler(int from, int to, int at, int kind) {
            if (handlers >= MOST_HANDLERS) {
                return FULL;
            }
            froms[handlers] = from;
            tos[handlers] = to;
            ats[handlers] = at;
            kinds[handlers] = kind;
            return handlers++;
        }

        void forget() {
            places = 0;
            handlers = 0;
            filled = 0;
        }

        int places() {
            return places;
        }

        int handlers() {
            return handlers;
        }

        int filledLocals() {
            return filled;
        }

        boolean hasPlace(int place) {
            return place >= 0 && place < places;
        }

        int opAt(int place) {
            return hasPlace(place) ? ops[place] : 0;
        }

        int firstAt(int place) {
            return hasPlace(place) ? firsts[place] : 0;
        }

        int secondAt(int place) {
            return hasPlace(place) ? seconds[place] : 0;
        }

        boolean goesOn(int place) {
            int op = opAt(place);
            return op < THROW || op > GOTO;
        }

        /** To how many PLACES the one there goes by 24 to 27, the next one left out. */
        int ways(int place) {
            int op = opAt(place);
            if (op < GOTO || op > CHOOSE) {
                return 0;
            }
            return op == CHOOSE ? 2 : 1;
        }

        int way(int place, int number) {
            return number == 0 ? firstAt(place) : secondAt(place);
        }

        private boolean hasHandler(int h) {
            return h >= 0 && h < handlers;
        }

        boolean handles(int h, int place) {
            return hasHandler(h) && froms[h] <= place && place < tos[h];
        }

        int handlerAt(int h) {
            return hasHandler(h) ? ats[h] : NONE;
        }

        int handlerKind(int h) {
            return hasHandler(h) ? kinds[h] : TOP;
        }

        /** The first HANDLER that takes such a FAULT from that place; NONE. */
        int taker(int place, int kind) {
            for (int h = 0; h < handlers; h++) {
                if (handles(h, place) && Kinds.goesAs(kind, handlerKind(h))) {
                    return h;
                }
            }
            return NONE;
        }

        int parameterKind(int local) {
            return local >= 0 && local < filled ? parameters[local] : TOP;
        }
    }

    /** LOCALS and a STACK. LOCALS are places 0 to 7, the STACK's are those from 8 on. */
    private static final class State {
        private final int[] kinds = new int[WIDTH];
        private int depth;

        void begin(Code code) {
            for (int i = 0; i < LOCALS; i++) {
                kinds[i] = code.parameterKind(i);
            }
            depth = 0;
        }

        int depth() {
            return depth;
        }

        void setDepth(int places) {
            depth = places < 0 ? 0 : Math.min(places, STACK);
        }

        int kindOf(int i) {
            return i >= 0 && i < WIDTH ? kinds[i] : TOP;
        }

        void setKind(int i, int kind) {
            if (i >= 0 && i < WIDTH) {
                kinds[i] = kind;
            }
        }

        /** The kind so many places below the topmost; NONE, if the STACK has too few. */
        int kindDown(int down) {
            return down >= 0 && down < depth ? kinds[LOCALS + depth - 1 - down] : NONE;
        }

        void leaveAlone(int kind) {
            kinds[LOCALS] = kind;
            depth = 1;
        }

        void drop(int places) {
            depth = places < depth ? depth - places : 0;
        }

        int push(int kind) {
            int wide = kind == COUNT ? 2 : 1;
            if (depth + wide > STACK) {
                return DEEP;
            }
            setKind(LOCALS + depth, kind);
            if (wide == 2) {
                setKind(LOCALS + depth + 1, HALF);
            }
            depth += wide;
            return FINE;
        }

        /** Only this parts a COUNT from its HALF, at either side: to join whole ones leaves whole ones. */
        int store(int local, int kind) {
            int wide = kind == COUNT ? 2 : 1;
            if (local < 0 || local > LOCALS - wide) {
                return LOCAL;
            }
            if (local > 0 && kinds[local - 1] == COUNT) {
                kinds[local - 1] = TOP;
            }
            kinds[local] = kind;
            if (wide == 2) {
                kinds[local + 1] = HALF;
            }
            int behind = local + wide;
            if (behind < LOCALS && kinds[behind] == HALF) {
                kinds[behind] = TOP;
            }
            return FINE;
        }

        boolean hasLone() {
            for (int i = 0; i < LOCALS; i++) {
                if (isLone(i, 0, LOCALS)) {
                    return true;
                }
            }
            for (int i = LOCALS; i < LOCALS + depth; i++) {
                if (isLone(i, LOCALS, LOCALS + depth)) {
                    return true;
                }
            }
            return false;
        }

        private boolean isLone(int i, int from, int to) {
            if (kindOf(i) == COUNT) {
                return i + 1 >= to || kindOf(i + 1) != HALF;
            }
            return kindOf(i) == HALF && (i - 1 < from || kindOf(i - 1) != COUNT);
        }

        boolean localsGoAs(State other) {
            for (int i = 0; i < LOCALS; i++) {
                if (!Kinds.goesAs(kindOf(i), other.kindOf(i))) {
                    return false;
                }
            }
            return true;
        }

        boolean allGoesAs(State other) {
            if (depth != other.depth || !localsGoAs(other)) {
                return false;
            }
            for (int i = LOCALS; i < LOCALS + depth; i++) {
                if (!Kinds.goesAs(kindOf(i), other.kindOf(i))) {
                    return false;
                }
            }
            return true;
        }
    }

    /** What an INSTRUCTION does to kinds: the same where code is worked out, judged and run. */
    private static final class Effect {
        /** What goes from the STACK: a hexadecimal digit for each place, the lowest for the topmost; 4: any REFERENCE. */
        private static final int[] TAKES = {0, 0, 0, 0, 0, 0, 0, 0x1, 0, 0, 0, 0, 0x11, 0x11, 0x2323, 0x23, 0x1,
            0x61, 0x611, 0x6, 0x7, 0x4, 0x7, 0, 0, 0x1, 0x4, 0x1, 0};
        private static final int MOST_TAKEN = 4;
        /** What comes to the STACK by itself; TOP: nothing. */
        private static final int[] GIVES = {TOP, INT, COUNT, NIL, THING, FAULT, MARK, ROW, TOP, TOP, TOP, TOP, INT,
            INT, COUNT, INT, COUNT, INT, TOP, INT, INT, TOP, TOP, TOP, TOP, TOP, TOP, TOP, TOP};

        /** Does it to the STATE and answers the FAULT OF CODE, if there is one. */
        static int apply(State state, int op, int a) {
            switch (op) {
                case LOAD:
                    return load(state, a);
                case STORE:
                    return store(state, a);
                case POP:
                    return pop(state);
                case POP2:
                    return popTwo(state);
                case INC:
                    return increase(state, a);
                default:
                    return exchange(state, op, a);
            }
        }

        private static int exchange(State state, int op, int a) {
            if (op < 0 || op >= TAKES.length || op >= GIVES.length) {
                return FINE;
            }
            int takes = TAKES[op];
            for (int i = 0; i < MOST_TAKEN && takes != 0; i++) {
                int found = state.kindDown(0);
                if (found == NONE) {
                    return EMPTY;
                }
                int told = takes & 15;
                boolean fits = told == NIL ? found >= NIL : Kinds.goesAs(found, told);
                if (!fits) {
                    return WRONG;
                }
                state.drop(1);
                takes >>>= 4;
            }
            int comes = op == CAST ? a : GIVES[op];
            return comes == TOP ? FINE : state.push(comes);
        }

        private static int load(State state, int a) {
            if (a < 0 || a >= LOCALS) {
                return LOCAL;
            }
            int kind = state.kindOf(a);
            return kind == TOP || kind == HALF ? WRONG : state.push(kind);
        }

        private static int store(State state, int a) {
            int kind = state.kindDown(0);
            if (kind == NONE) {
                return EMPTY;
            }
            if (kind == TOP) {
                return WRONG;
            }
            state.drop(kind == HALF ? 2 : 1);
            return state.store(a, kind == HALF ? COUNT : kind);
        }

        private static int pop(State state) {
            int kind = state.kindDown(0);
            if (kind == NONE) {
                return EMPTY;
            }
            if (kind == HALF) {
                return WRONG;
            }
            state.drop(1);
            return FINE;
        }

        private static int popTwo(State state) {
            int lower = state.kindDown(1);
            if (lower == NONE) {
                return EMPTY;
            }
            if (lower == HALF) {
                return WRONG;
            }
            state.drop(2);
            return FINE;
        }

        private static int increase(State state, int a) {
            if (a < 0 || a >= LOCALS) {
                return LOCAL;
            }
            return state.kindOf(a) == INT ? FINE : WRONG;
        }
    }

    /** Rows with a STATE each, or none. They are flat, so that no row can be null. */
    private static final class Table {
        private final int[] kinds = new int[MOST_PLACES * WIDTH];
        private final int[] depths = new int[MOST_PLACES];

        void forget() {
            Arrays.fill(depths, NONE);
        }

        /** How many places the STACK has in that row; NONE: it has no STATE. */
        int depthOf(int row) {
            return row >= 0 && row < MOST_PLACES ? depths[row] : NONE;
        }

        int kindOf(int row, int i) {
            return isCell(row, i) ? kinds[row * WIDTH + i] : TOP;
        }

        void setKind(int row, int i, int kind) {
            if (isCell(row, i)) {
                kinds[row * WIDTH + i] = kind;
            }
        }

        private boolean isCell(int row, int i) {
            return row >= 0 && row < MOST_PLACES && i >= 0 && i < WIDTH;
        }

        void write(int row, State state) {
            if (row < 0 || row >= MOST_PLACES) {
                return;
            }
            depths[row] = state.depth();
            for (int i = 0; i < WIDTH; i++) {
                kinds[row * WIDTH + i] = state.kindOf(i);
            }
        }

        void read(int row, State into) {
            if (row < 0 || row >= MOST_PLACES) {
                return;
            }
            into.setDepth(depths[row]);
            for (int i = 0; i < WIDTH; i++) {
                into.setKind(i, kinds[row * WIDTH + i]);
            }
        }
    }

    /** FRAMES, as they stand. */
    private static final class Frames {
        private final Table states = new Table();
        private final int[] places = new int[MOST_PLACES];
        private final int[] locals = new int[MOST_PLACES];
        private int many;

        void forget() {
            many = 0;
        }

        void add(int place, State state) {
            if (many >= MOST_PLACES) {
                return;
            }
            places[many] = place;
            locals[many] = usedLocals(state);
            states.write(many, state);
            many++;
        }

        private static int usedLocals(State state) {
            int used = LOCALS;
            while (used > 0 && state.kindOf(used - 1) == TOP) {
                used--;
            }
            return used;
        }

        int howMany() {
            return many;
        }

        private boolean has(int f) {
            return f >= 0 && f < many;
        }

        int placeOf(int f) {
            return has(f) ? places[f] : NONE;
        }

        int localsOf(int f) {
            return has(f) ? locals[f] : 0;
        }

        int stackOf(int f) {
            return has(f) ? states.depthOf(f) : 0;
        }

        int frameAt(int place) {
            for (int f = 0; f < many; f++) {
                if (places[f] == place) {
                    return f;
                }
            }
            return NONE;
        }

        void read(int f, State into) {
            states.read(f, into);
        }

        int tell(int f, int what) {
            if (!has(f)) {
                return NONE;
            }
            switch (what) {
                case 0:
                    return placeOf(f);
                case 1:
                    return localsOf(f);
                case 2:
                    return stackOf(f);
                default:
                    return entry(f, what - 3);
            }
        }

        int entry(int f, int i) {
            return hasEntry(f, i) ? states.kindOf(f, column(f, i)) : NONE;
        }

        int change(int f, int i, int kind) {
            int before = entry(f, i);
            if (before != NONE) {
                states.setKind(f, column(f, i), kind);
            }
            return before;
        }

        private boolean hasEntry(int f, int i) {
            return has(f) && i >= 0 && i < localsOf(f) + stackOf(f);
        }

        private int column(int f, int i) {
            return i < localsOf(f) ? i : LOCALS + i - localsOf(f);
        }
    }

    /** TO MAKE. */
    private static final class Maker {
        /** Every ROUND but the last reaches a PLACE or lifts one of its kinds, each of them four times at most. */
        private static final int MOST_ROUNDS = MOST_PLACES * (1 + 4 * WIDTH) + 1;

        private final Code code;
        private final Frames frames;
        private final Table states = new Table();
        private final State now = new State();
        private boolean made;
        private boolean changed;
        private int rounds;
        private int faultPlace;

        Maker(Code code, Frames frames) {
            this.code = code;
            this.frames = frames;
        }

        boolean isMade() {
            return made;
        }

        void undo() {
            made = false;
        }

        int rounds() {
            return rounds;
        }

        int faultPlace() {
            return faultPlace;
        }

        int depthAt(int place) {
            return states.depthOf(place);
        }

        int kindAt(int place, int i) {
            return isDead(place) ? NONE : states.kindOf(place, i);
        }

        boolean isDead(int place) {
            return states.depthOf(place) == NONE;
        }

        int deadPlaces() {
            int dead = 0;
            for (int p = 0; p < code.places(); p++) {
                if (isDead(p)) {
                    dead++;
                }
            }
            return dead;
        }

        /** Answers the FAULT OF CODE, if there is one. */
        int workOut() {
            begin();
            if (code.places() == 0) {
                faultPlace = -1;
                return END;
            }
            int fault = FINE;
            while (fault == FINE && changed && rounds < MOST_ROUNDS) {
                changed = false;
                rounds++;
                fault = goRound();
            }
            if (fault == FINE) {
                gatherFrames();
                made = true;
            }
            return fault;
        }

        private void begin() {
            made = false;
            changed = true;
            rounds = 0;
            frames.forget();
            states.forget();
            now.begin(code);
            states.write(0, now);
        }

        private int goRound() {
            for (int p = 0; p < code.places(); p++) {
                if (isDead(p)) {
                    continue;
                }
                int fault = workHandlers(p);
                if (fault == FINE) {
                    fault = workOp(p);
                }
                if (fault == FINE) {
                    fault = workWays(p);
                }
                if (fault != FINE) {
                    faultPlace = p;
                    return fault;
                }
            }
            return FINE;
        }

        private int workOp(int place) {
            states.read(place, now);
            return Effect.apply(now, code.opAt(place), code.firstAt(place));
        }

        private int workHandlers(int place) {
            for (int h = 0; h < code.handlers(); h++) {
                if (code.handles(h, place)) {
                    states.read(place, now);
                    now.leaveAlone(code.handlerKind(h));
                    int fault = joinAt(code.handlerAt(h));
                    if (fault != FINE) {
                        return fault;
                    }
                }
            }
            return FINE;
        }

        private int workWays(int place) {
            for (int w = 0; w < code.ways(place); w++) {
                int fault = joinAt(code.way(place, w));
                if (fault != FINE) {
                    return fault;
                }
            }
            if (!code.goesOn(place)) {
                return FINE;
            }
            return code.hasPlace(place + 1) ? joinAt(place + 1) : END;
        }

        private int joinAt(int place) {
            if (!code.hasPlace(place)) {
                return TARGET;
            }
            if (isDead(place)) {
                states.write(place, now);
                changed = true;
                return FINE;
            }
            if (states.depthOf(place) != now.depth()) {
                return UNLIKE;
            }
            for (int i = 0; i < LOCALS + now.depth(); i++) {
                int before = states.kindOf(place, i);
                int both = Kinds.joined(before, now.kindOf(i));
                if (both != before) {
                    states.setKind(place, i, both);
                    changed = true;
                }
            }
            return FINE;
        }

        private void gatherFrames() {
            for (int p = 0; p < code.places(); p++) {
                if (!isDead(p) && (isHandlers(p) || isGoneTo(p) || isBehindGap(p))) {
                    states.read(p, now);
                    frames.add(p, now);
                }
            }
        }

        private boolean isHandlers(int place) {
            for (int h = 0; h < code.handlers(); h++) {
                if (code.handlerAt(h) == place) {
                    return true;
                }
            }
            return false;
        }

        private boolean isGoneTo(int place) {
            for (int p = 0; p < code.places(); p++) {
                for (int w = 0; w < code.ways(p); w++) {
                    if (!isDead(p) && code.way(p, w) == place) {
                        return true;
                    }
                }
            }
            return false;
        }

        private boolean isBehindGap(int place) {
            return place > 0 && (isDead(place - 1) || !code.goesOn(place - 1));
        }
    }

    /** TO JUDGE. */
    private static final class Judge {
        private final Code code;
        private final Maker maker;
        private final Frames frames;
        private final State now = new State();
        private final State there = new State();

        Judge(Code code, Maker maker, Frames frames) {
            this.code = code;
            this.maker = maker;
            this.frames = frames;
        }

        /** The PLACE; NONE: all is so. */
        int firstRefused() {
            int torn = firstTorn();
            if (torn != NONE) {
                return torn;
            }
            now.begin(code);
            boolean came = true;
            for (int p = 0; p < code.places(); p++) {
                boolean dead = maker.isDead(p);
                if (!dead && !(enters(p, came) && handlersHold(p) && leaves(p))) {
                    return p;
                }
                came = !dead && code.goesOn(p);
            }
            return NONE;
        }

        private int firstTorn() {
            for (int f = 0; f < frames.howMany(); f++) {
                frames.read(f, there);
                if (there.hasLone()) {
                    return frames.placeOf(f);
                }
            }
            return NONE;
        }

        private boolean enters(int place, boolean came) {
            if (!readFrame(place, there)) {
                return came;
            }
            return (!came || now.allGoesAs(there)) && readFrame(place, now);
        }

        private boolean readFrame(int place, State into) {
            int f = frames.frameAt(place);
            if (f == NONE) {
                return false;
            }
            frames.read(f, into);
            return true;
        }

        private boolean handlersHold(int place) {
            for (int h = 0; h < code.handlers(); h++) {
                if (code.handles(h, place) && !(readFrame(code.handlerAt(h), there) && isTaken(code.handlerKind(h)))) {
                    return false;
                }
            }
            return true;
        }

        private boolean isTaken(int kind) {
            return now.localsGoAs(there) && there.depth() == 1 && Kinds.goesAs(kind, there.kindDown(0));
        }

        private boolean leaves(int place) {
            if (Effect.apply(now, code.opAt(place), code.firstAt(place)) != FINE) {
                return false;
            }
            for (int w = 0; w < code.ways(place); w++) {
                if (!(readFrame(code.way(place, w), there) && now.allGoesAs(there))) {
                    return false;
                }
            }
            return true;
        }
    }

    /** PACKED. */
    private static final class Packer {
        /** 255 and its four, eight LOCALS of three bytes, two, six places of three bytes. */
        private static final int MOST_BYTES = MOST_PLACES * (5 + 3 * LOCALS + 2 + 3 * STACK);

        private final Code code;
        private final Frames frames;
        private final State now = new State();
        private final int[] bytes = new int[MOST_BYTES];
        private int length;
        private final int[] ahead = new int[LOCALS];
        private int aheadMany;
        private final int[] locals = new int[LOCALS];
        private int localsMany;
        private final int[] stack = new int[STACK];
        private int stackMany;

        Packer(Code code, Frames frames) {
            this.code = code;
            this.frames = frames;
        }

        int howMany() {
            return length;
        }

        int byteAt(int i) {
            return i >= 0 && i < length && i < MOST_BYTES ? bytes[i] : 0;
        }

        int pack() {
            length = 0;
            gatherParameters();
            int behind = 0;
            for (int f = 0; f < frames.howMany(); f++) {
                gatherFrame(f);
                packFrame(frames.placeOf(f) - behind);
                behind = frames.placeOf(f) + 1;
                keepAhead();
            }
            return length;
        }

        private void gatherParameters() {
            aheadMany = 0;
            for (int i = 0; i < code.filledLocals() && aheadMany < LOCALS; i++) {
                if (code.parameterKind(i) != HALF) {
                    ahead[aheadMany++] = code.parameterKind(i);
                }
            }
        }

        private void gatherFrame(int f) {
            frames.read(f, now);
            localsMany = gather(0, frames.localsOf(f), locals);
            stackMany = gather(LOCALS, now.depth(), stack);
        }

        /** A COUNT and the HALF behind it are one entry: the COUNT. */
        private int gather(int from, int places, int[] into) {
            int many = 0;
            for (int i = from; i < from + places; i++) {
                boolean isSecond = i > from && now.kindOf(i) == HALF && now.kindOf(i - 1) == COUNT;
                if (!isSecond && many < into.length) {
                    into[many++] = now.kindOf(i);
                }
            }
            return many;
        }

        private void keepAhead() {
            aheadMany = localsMany;
            for (int i = 0; i < LOCALS; i++) {
                ahead[i] = locals[i];
            }
        }

        private void packFrame(int distance) {
            int more = localsMany - aheadMany;
            boolean nearLocals = startsAlike();
            if (nearLocals && more == 0 && stackMany == 0) {
                write(distance);
            } else if (nearLocals && more == 0 && stackMany == 1) {
                write(64 + distance);
                writeEntries(stack, 0, 1);
            } else if (nearLocals && stackMany == 0 && more >= -3 && more <= 3) {
                write(251 + more);
                write(0);
                write(distance);
                writeEntries(locals, aheadMany, localsMany);
            } else {
                packWhole(distance);
            }
        }

        private boolean startsAlike() {
            for (int i = 0; i < LOCALS && i < aheadMany && i < localsMany; i++) {
                if (ahead[i] != locals[i]) {
                    return false;
                }
            }
            return true;
        }

        private void packWhole(int distance) {
            write(255);
            write(0);
            write(distance);
            write(0);
            write(localsMany);
            writeEntries(locals, 0, localsMany);
            write(0);
            write(stackMany);
            writeEntries(stack, 0, stackMany);
        }

        private void writeEntries(int[] kinds, int from, int to) {
            for (int i = from; i >= 0 && i < to && i < kinds.length; i++) {
                writeEntry(kinds[i]);
            }
        }

        private void writeEntry(int kind) {
            switch (kind) {
                case TOP:
                    write(0);
                    break;
                case INT:
                    write(1);
                    break;
                case COUNT:
                    write(4);
                    break;
                case NIL:
                    write(5);
                    break;
                default:
                    write(7);
                    write(0);
                    write(kind);
            }
        }

        private void write(int value) {
            if (length < MOST_BYTES) {
                bytes[length++] = value;
            }
        }
    }

    /** ROWS of a run, those of ARGUMENTS and new ones. */
    private static final class Rows {
        /** A STEP that makes one takes an INT, which another STEP brought: half of them make one at most. */
        private static final int MOST_ROWS = LOCALS + MOST_STEPS / 2;

        private final int[] lengths = new int[MOST_ROWS];
        private final int[] cells = new int[MOST_ROWS * MOST_CELLS];
        private int many;

        void forget() {
            many = 0;
        }

        int add(int length) {
            if (many >= MOST_ROWS || length < 0 || length > MOST_CELLS) {
                return NONE;
            }
            lengths[many] = length;
            for (int i = 0; i < length; i++) {
                cells[many * MOST_CELLS + i] = 0;
            }
            return many++;
        }

        int lengthOf(int row) {
            return row >= 0 && row < many ? lengths[row] : 0;
        }

        boolean hasCell(int row, int i) {
            return row >= 0 && row < many && i >= 0 && i < lengths[row];
        }

        int cell(int row, int i) {
            return hasCell(row, i) ? cells[row * MOST_CELLS + i] : 0;
        }

        void setCell(int row, int i, int value) {
            if (hasCell(row, i)) {
                cells[row * MOST_CELLS + i] = value;
            }
        }
    }

    /**
     * TO RUN. Beside each kind stands a value: an INT, a COUNT (in LOCALS with itself, on the STACK with its HALF,
     * which is topmost), the CODE of a FAULT, which of the ROWS; NIL and a THING have 0.
     */
    private static final class Machine {
        private static final int RETURNED = 0, NOT_TAKEN = 1, GOES_ON = 2;
        private static final int NIL_USED = 1, NO_CELL = 2, BELOW_ZERO = 3, NOT_OF_KIND = 4, BY_ZERO = 5, TOO_LONG = 6;

        private final Code code;
        private final long[] arguments = new long[LOCALS];
        private final State state = new State();
        private final long[] values = new long[WIDTH];
        private final long[] taken = new long[3];
        private final int[] takenKinds = new int[3];
        private final Rows rows = new Rows();
        private boolean ran;
        private boolean ended;
        private int place;
        private int steps;
        private int outcome;
        private int codeFault;
        private long notTakenCode;
        private int refusals;

        Machine(Code code) {
            this.code = code;
        }

        long changeArgument(int i, long v) {
            if (i < 0 || i >= LOCALS) {
                return BAD;
            }
            long before = arguments[i];
            arguments[i] = v;
            return before;
        }

        boolean isFull() {
            return refusals >= MOST_REFUSALS;
        }

        int outcome() {
            return outcome;
        }

        int codeFault() {
            return codeFault;
        }

        int endPlace() {
            return place;
        }

        void go(int most) {
            begin();
            while (!ended && steps < most) {
                steps++;
                step();
            }
        }

        private void begin() {
            ran = true;
            ended = false;
            place = 0;
            steps = 0;
            outcome = GOES_ON;
            codeFault = FINE;
            notTakenCode = 0;
            rows.forget();
            state.begin(code);
            for (int i = 0; i < LOCALS; i++) {
                beginLocal(i);
            }
            if (code.places() == 0) {
                place = -1;
                refuse(END);
            }
        }

        private void beginLocal(int local) {
            long v = arguments[local];
            int kind = state.kindOf(local);
            switch (kind) {
                case INT:
                    setValue(local, (int) v);
                    break;
                case COUNT:
                    setValue(local, v);
                    break;
                case HALF:
                    break;
                default:
                    setValue(local, kind == ROW && v >= 0 ? rows.add((int) (v & 7)) : 0);
                    state.setKind(local, kind >= THING && v < 0 ? NIL : kind);
            }
        }

        private void refuse(int fault) {
            codeFault = fault;
            ended = true;
        }

        private void finish(int how) {
            outcome = how;
            ended = true;
        }

        private void step() {
            int op = code.opAt(place);
            int a = code.firstAt(place);
            look();
            int fault = Effect.apply(state, op, a);
            if (fault != FINE) {
                refuse(fault);
                return;
            }
            int refusal = refusalOf(op, a);
            if (refusal != 0) {
                refusals++;
                raise(FAULT, refusal);
            } else if (op == THROW) {
                raise(takenKinds[0], taken[0]);
            } else if (op == RETURN) {
                finish(RETURNED);
            } else {
                work(op, a);
                goFrom(op, a);
            }
        }

        /** Keeps the three topmost, as what goes from the STACK is gone once kinds are worked out. */
        private void look() {
            for (int down = 0; down < 3; down++) {
                takenKinds[down] = state.kindDown(down);
                taken[down] = value(LOCALS + state.depth() - 1 - down);
            }
        }

        private int takenInt(int down) {
            return down >= 0 && down < 3 ? (int) taken[down] : 0;
        }

        private int refusalOf(int op, int a) {
            switch (op) {
                case NEW_ROW:
                    return takenInt(0) < 0 ? BELOW_ZERO : takenInt(0) > MOST_CELLS ? TOO_LONG : 0;
                case 13:
                    return takenInt(0) == 0 ? BY_ZERO : 0;
                case 17:
                    return takenKinds[1] == NIL ? NIL_USED : rows.hasCell(takenInt(1), takenInt(0)) ? 0 : NO_CELL;
                case 18:
                    return takenKinds[2] == NIL ? NIL_USED : rows.hasCell(takenInt(2), takenInt(1)) ? 0 : NO_CELL;
                case 19:
                case 20:
                case THROW:
                    return takenKinds[0] == NIL ? NIL_USED : 0;
                case CAST:
                    return Kinds.goesAs(takenKinds[0], a) ? 0 : NOT_OF_KIND;
                default:
                    return 0;
            }
        }

        private void raise(int kind, long faultCode) {
            int h = code.taker(place, kind);
            if (h == NONE) {
                notTakenCode = faultCode;
                finish(NOT_TAKEN);
                return;
            }
            state.leaveAlone(kind);
            setValue(LOCALS, faultCode);
            goTo(code.handlerAt(h));
        }

        private void work(int op, int a) {
            switch (op) {
                case 1:
                case 2:
                case NEW_MARK:
                    leave(a);
                    break;
                case 3:
                case 4:
                case 5:
                    leave(0);
                    break;
                case NEW_ROW:
                    leave(rows.add(takenInt(0)));
                    break;
                case LOAD:
                    leave(value(a));
                    break;
                case STORE:
                    setValue(a, taken[0]);
                    break;
                case CAST:
                    // in a run it stays what it is, NIL too, and its value stands there still
                    state.setKind(LOCALS + state.depth() - 1, takenKinds[0]);
                    break;
                case INC:
                    setValue(a, (int) value(a) + code.secondAt(place));
                    break;
                default:
                    reckon(op);
            }
        }

        private void reckon(int op) {
            switch (op) {
                case 12:
                    leave(takenInt(1) + takenInt(0));
                    break;
                case 13:
                    leave(takenInt(0) == 0 ? 0 : takenInt(1) / takenInt(0));
                    break;
                case 14:
                    leave(taken[2] + taken[0]);
                    break;
                case 15:
                    leave(takenInt(0));
                    break;
                case 16:
                case 20:
                    leave(taken[0]);
                    break;
                case 17:
                    leave(rows.cell(takenInt(1), takenInt(0)));
                    break;
                case 18:
                    rows.setCell(takenInt(2), takenInt(1), takenInt(0));
                    break;
                case 19:
                    leave(rows.lengthOf(takenInt(0)));
                    break;
                default:
                    break;
            }
        }

        /** The value of what came to the STACK. */
        private void leave(long v) {
            setValue(LOCALS + state.depth() - 1, v);
        }

        private void goFrom(int op, int a) {
            boolean isZero = op == IF_ZERO && takenInt(0) == 0;
            boolean isNil = op == IF_NIL && takenKinds[0] == NIL;
            if (op == GOTO || isZero || isNil || (op == CHOOSE && takenInt(0) == 0)) {
                goTo(a);
            } else if (op == CHOOSE && takenInt(0) == 1) {
                goTo(code.secondAt(place));
            } else if (code.hasPlace(place + 1)) {
                place++;
            } else {
                refuse(END);
            }
        }

        private void goTo(int there) {
            if (code.hasPlace(there)) {
                place = there;
            } else {
                refuse(TARGET);
            }
        }

        private long value(int i) {
            return i >= 0 && i < WIDTH ? values[i] : 0;
        }

        private void setValue(int i, long v) {
            if (i >= 0 && i < WIDTH) {
                values[i] = v;
            }
        }

        long tell(int what) {
            if (!ran) {
                return 0;
            }
            switch (what) {
                case 0:
                    return topmostKind();
                case 1:
                    return topmostNumber();
                case 2:
                    return place;
                case 3:
                    return steps;
                case 4:
                    return notTakenCode;
                default:
                    return 0;
            }
        }

        private boolean hasReturned() {
            return outcome == RETURNED && codeFault == FINE;
        }

        private int topmostKind() {
            int kind = hasReturned() ? state.kindDown(0) : NONE;
            return kind == HALF ? COUNT : kind;
        }

        private long topmostNumber() {
            long v = value(LOCALS + state.depth() - 1);
            switch (topmostKind()) {
                case INT:
                case COUNT:
                case FAULT:
                case MARK:
                    return v;
                case ROW:
                    return rows.lengthOf((int) v);
                default:
                    return 0;
            }
        }
    }
}
