import java.util.List;

/**
 * "Calls answer, the first of these that fits: BAD (a number is not as told), STATE (nothing is MADE), FULL; then nothing changes.
 * What changes CODE, HANDLERS, PARAMETERS undoes what was MADE." And promises 1 to 4, 17 and 18 at their edges.
 */
public final class CallEdgesTest {
    private static final int LEAST = Integer.MIN_VALUE, MOST = Integer.MAX_VALUE;

    public static void main(String[] args) {
        newObject();
        parameterKinds();
        parametersFull();
        operationNumbers();
        handlerNumbers();
        counts();
        refusedChangesNothing();
        fullChangesNothing();
        unmadeChangesNothing();
        undone();
        cleared();
        clearedFull();
        faultOfTheLatest();
        manyCalls();
        twoObjects();
        Due.end();
    }

    /** "No CODE, HANDLERS, PARAMETERS; ARGUMENTS 0." */
    private static void newObject() {
        Trial t = new Trial("new", "");
        for (int what = 0; what <= 5; what++) {
            Due.is("new: count(" + what + ")", t.x.count(what), 0);
        }
        for (int i = 0; i < 8; i++) {
            Due.is("new: argument(" + i + ")", t.x.argument(i, 0), 0);
        }
        Due.is("new: fault()", t.x.fault(), 0);
        Due.is("new: told(0)", t.x.told(0), 0);
        Due.is("new: clear()", t.x.clear(), 0);
        Due.is("new: judge()", t.x.judge(), ClassFrames.STATE);
        Due.is("new: packed()", t.x.packed(), ClassFrames.STATE);
        Due.is("new: frame(0, 0)", t.x.frame(0, 0), ClassFrames.STATE);
        Due.is("new: plant(0, 0, 0)", t.x.plant(0, 0, 0), ClassFrames.STATE);
        Due.is("new: kind(0, 0)", t.x.kind(0, 0), ClassFrames.BAD);
        Due.is("new: size(0)", t.x.size(0), ClassFrames.BAD);
        Due.is("new: out(0)", Due.byteOrThrown(t.x, 0), -100);
    }

    /** "A PARAMETER of a kind (1, 2, 5 to 8): which LOCAL. BAD". */
    private static void parameterKinds() {
        for (int kind = -3; kind <= 12; kind++) {
            boolean is = kind == 1 || kind == 2 || kind >= 5 && kind <= 8;
            ClassFrames x = new ClassFrames();
            Due.is("parameter(" + kind + ")", x.parameter(kind), is ? 0 : ClassFrames.BAD);
            Due.is("count(2)", x.count(2), !is ? 0 : kind == 2 ? 2 : 1);
            Due.is("the next one", x.parameter(1), !is ? 0 : kind == 2 ? 2 : 1);
        }
        Due.is("parameter(MIN)", new ClassFrames().parameter(LEAST), ClassFrames.BAD);
        Due.is("parameter(MAX)", new ClassFrames().parameter(MOST), ClassFrames.BAD);
    }

    /** "PARAMETERS fill LOCALS from 0 on.": each kind at each number of LOCALS. */
    private static void parametersFull() {
        for (int before = 0; before <= 8; before++) {
            for (int kind : new int[] {1, 2, 5, 6, 7, 8}) {
                ClassFrames x = new ClassFrames();
                for (int i = 0; i < before; i++) {
                    Due.is("LOCAL " + i, x.parameter(1), i);
                }
                int wide = kind == 2 ? 2 : 1;
                boolean room = before + wide <= 8;
                Due.is("parameter(" + kind + ") behind " + before, x.parameter(kind), room ? before : ClassFrames.FULL);
                Due.is("count(2)", x.count(2), room ? before + wide : before);
                Due.is("BAD ahead of FULL", x.parameter(3), ClassFrames.BAD);
                Due.is("then an INT", x.parameter(1), room ? before + wide < 8 ? before + wide : ClassFrames.FULL : before < 8 ? before : ClassFrames.FULL);
            }
        }
    }

    /** "BAD: op (0 to 28), kind a of 21; FULL." */
    private static void operationNumbers() {
        for (int op = -2; op <= 31; op++) {
            for (int a : new int[] {LEAST, -1, 0, 4, 5, 6, 7, 8, 9, 60, MOST}) {
                boolean is = op >= 0 && op <= 28 && (op != 21 || a >= 5 && a <= 8);
                ClassFrames x = new ClassFrames();
                Due.is("operation(" + op + ", " + a + ", MIN)", x.operation(op, a, LEAST), is ? 0 : ClassFrames.BAD);
                Due.is("count(0)", x.count(0), is ? 1 : 0);
            }
        }
        for (int op : new int[] {LEAST, MOST}) {
            Due.is("operation(" + op + ", 0, 0)", new ClassFrames().operation(op, 0, 0), ClassFrames.BAD);
        }
        ClassFrames x = new ClassFrames();
        for (int p = 0; p < 60; p++) {
            Due.is("PLACE " + p, x.operation(0, 0, 0), p);
        }
        for (int i = 0; i < 3; i++) {
            Due.is("PLACE 60", x.operation(23, 0, 0), ClassFrames.FULL);
            Due.is("BAD ahead of FULL", x.operation(29, 0, 0), ClassFrames.BAD);
            Due.is("BAD ahead of FULL, 21", x.operation(21, 9, 0), ClassFrames.BAD);
            Due.is("count(0)", x.count(0), 60);
        }
    }

    /** "BAD: from, to, at not 0 to 60, kind; FULL." */
    private static void handlerNumbers() {
        int[] numbers = {LEAST, -1, 0, 1, 59, 60, 61, MOST};
        for (int from : numbers) {
            for (int to : numbers) {
                for (int at : numbers) {
                    boolean is = isBound(from) && isBound(to) && isBound(at);
                    ClassFrames x = new ClassFrames();
                    Due.is("handler(" + from + ", " + to + ", " + at + ", 7)", x.handler(from, to, at, 7), is ? 0 : ClassFrames.BAD);
                    Due.is("count(1)", x.count(1), is ? 1 : 0);
                }
            }
        }
        ClassFrames x = new ClassFrames();
        for (int kind : new int[] {LEAST, -1, 0, 1, 2, 3, 4, 5, 6, 9, 10, MOST}) {
            Due.is("handler of kind " + kind, x.handler(0, 1, 0, kind), ClassFrames.BAD);
        }
        for (int h = 0; h < 6; h++) {
            Due.is("HANDLER " + h, x.handler(0, 1, 0, 7 + h % 2), h);
        }
        for (int i = 0; i < 3; i++) {
            Due.is("HANDLER 6", x.handler(0, 1, 0, 7), ClassFrames.FULL);
            Due.is("BAD ahead of FULL", x.handler(0, 1, 61, 7), ClassFrames.BAD);
            Due.is("BAD ahead of FULL, kind", x.handler(0, 1, 0, 6), ClassFrames.BAD);
            Due.is("count(1)", x.count(1), 6);
        }
    }

    private static boolean isBound(int place) {
        return place >= 0 && place <= 60;
    }

    /** "How many: what = 0 .. 5. BAD." */
    private static void counts() {
        Trial t = new Trial("counts", "24 2; 0; 24 3; 23; 0", 2, 1).handler(0, 0, 0, 7).handler(0, 0, 1, 8);
        int[] before = {5, 2, 3, 0, 0, 0};
        int[] after = {5, 2, 3, 3, 2, 2};
        for (int what = 0; what <= 5; what++) {
            Due.is("not made: count(" + what + ")", t.x.count(what), before[what]);
        }
        t.makes(3);
        for (int what = 0; what <= 5; what++) {
            Due.is("made: count(" + what + ")", t.x.count(what), after[what]);
        }
        for (int what : new int[] {LEAST, -2, -1, 6, 7, MOST}) {
            Due.is("count(" + what + ")", t.x.count(what), ClassFrames.BAD);
        }
        t.plant(1, 0, 5);
        Due.is("planted: count(3)", t.x.count(3), 3);
        t.x.parameter(1);
        int[] undone = {5, 2, 4, 0, 0, 2};
        for (int what = 0; what <= 5; what++) {
            Due.is("undone: count(" + what + ")", t.x.count(what), undone[what]);
        }
    }

    private static Trial whole() {
        Trial t = new Trial("whole", "8 0; 25 4; 2; 9 3; 23; 19; 23; 10; 23", 1, 6).handler(0, 3, 7, 7).handler(1, 3, 7, 8);
        t.argument(0, 1).argument(7, -2).makes(2).plant(0, 0, 8);
        t.x.packed();
        t.x.run(3);
        return t;
    }

    private static void same(String name, List<Long> before, List<Long> after) {
        Due.holds(name + " changes nothing", before.equals(after));
    }

    /** What is BAD changes nothing at all, where something is MADE, planted, PACKED, run and told. */
    private static void refusedChangesNothing() {
        Trial t = whole();
        List<Long> before = t.all();
        Due.is("parameter(4)", t.x.parameter(4), ClassFrames.BAD);
        Due.is("operation(29, ..)", t.x.operation(29, 0, 0), ClassFrames.BAD);
        Due.is("operation(21, 4, ..)", t.x.operation(21, 4, 0), ClassFrames.BAD);
        Due.is("handler(61, ..)", t.x.handler(61, 0, 0, 7), ClassFrames.BAD);
        Due.is("handler(.., 6)", t.x.handler(0, 0, 0, 6), ClassFrames.BAD);
        same("BAD code", before, t.all());
        Due.is("kind(9, 0)", t.x.kind(9, 0), ClassFrames.BAD);
        Due.is("size(-1)", t.x.size(-1), ClassFrames.BAD);
        Due.is("frame(-1, 0)", t.x.frame(-1, 0), ClassFrames.BAD);
        Due.is("plant(0, 0, 9)", t.x.plant(0, 0, 9), ClassFrames.BAD);
        Due.is("plant(-1, 0, 1)", t.x.plant(-1, 0, 1), ClassFrames.BAD);
        Due.is("plant(0, -1, 1)", t.x.plant(0, -1, 1), ClassFrames.BAD);
        Due.is("plant(2, 0, 1)", t.x.plant(2, 0, 1), ClassFrames.NONE);
        Due.is("plant(0, 2, 1)", t.x.plant(0, 2, 1), ClassFrames.NONE);
        Due.is("plant(1, 3, 1)", t.x.plant(1, 3, 1), ClassFrames.NONE);
        same("BAD FRAMES", before, t.all());
        Due.is("argument(8, 1)", t.x.argument(8, 1), ClassFrames.BAD);
        Due.is("argument(-1, 1)", t.x.argument(-1, 1), ClassFrames.BAD);
        Due.is("run(301)", t.x.run(301), ClassFrames.BAD);
        Due.is("run(-1)", t.x.run(-1), ClassFrames.BAD);
        Due.is("count(6)", t.x.count(6), ClassFrames.BAD);
        Due.is("out(99)", Due.byteOrThrown(t.x, 99), -100);
        same("a BAD run", before, t.all());
    }

    private static void fullChangesNothing() {
        Trial t = new Trial("full", "24 1; " + Trial.times(59, "23"), 1, 1, 1, 1, 1, 1, 1);
        for (int h = 0; h < 6; h++) {
            t.handler(0, 1, 59, 8);
        }
        t.makes(2).plant(0, 0, 5);
        t.x.packed();
        t.x.run(3);
        List<Long> before = t.all();
        Due.is("FULL: parameter(2)", t.x.parameter(2), ClassFrames.FULL);
        Due.is("FULL: operation", t.x.operation(0, 0, 0), ClassFrames.FULL);
        Due.is("FULL: handler", t.x.handler(0, 0, 0, 7), ClassFrames.FULL);
        same("FULL", before, t.all());
        Due.is("room for one more", t.x.parameter(1), 7);
        t.makes(2).plant(0, 7, 0);
        before = t.all();
        Due.is("FULL: parameter(1)", t.x.parameter(1), ClassFrames.FULL);
        same("FULL, a PARAMETER", before, t.all());
        Trial thrown = new Trial("a thousand", "3; 22", 1).handler(0, 2, 0, 7);
        for (int i = 0; i < 7; i++) {
            thrown.x.run(300);
        }
        thrown.x.make();
        before = thrown.all();
        Due.is("FULL: run(5)", thrown.x.run(5), ClassFrames.FULL);
        same("FULL, a run", before, thrown.all());
    }

    private static void unmadeChangesNothing() {
        Trial t = whole();
        t.x.operation(23, 0, 0);
        List<Long> before = t.all();
        Due.is("STATE: kind", t.x.kind(0, 0), ClassFrames.STATE);
        Due.is("STATE: size", t.x.size(0), ClassFrames.STATE);
        Due.is("STATE: frame", t.x.frame(0, 0), ClassFrames.STATE);
        Due.is("STATE: plant", t.x.plant(0, 0, 1), ClassFrames.STATE);
        Due.is("STATE: judge", t.x.judge(), ClassFrames.STATE);
        Due.is("STATE: packed", t.x.packed(), ClassFrames.STATE);
        same("STATE", before, t.all());
        t.makes(2);
        Due.is("nothing was planted", t.x.frame(0, 3), 1);
    }

    /** "What changes CODE, HANDLERS, PARAMETERS undoes what was MADE." What else there is does not. */
    private static void undone() {
        for (int change = 0; change < 4; change++) {
            Trial t = whole();
            t.x.judge();
            t.x.argument(0, 0);
            t.x.run(300);
            t.x.told(0);
            t.x.count(3);
            t.x.packed();
            Due.is("still MADE", t.x.frame(0, 0), 4);
            if (change == 0) {
                Due.is("parameter(1)", t.x.parameter(1), 2);
            } else if (change == 1) {
                Due.is("operation(0, 0, 0)", t.x.operation(0, 0, 0), 9);
            } else if (change == 2) {
                Due.is("handler(60, 60, 60, 7)", t.x.handler(60, 60, 60, 7), 2);
            } else {
                Due.is("clear()", t.x.clear(), 9);
            }
            Due.is("undone: frame(0, 0)", t.x.frame(0, 0), ClassFrames.STATE);
            Due.is("undone: judge()", t.x.judge(), ClassFrames.STATE);
            Due.is("undone: packed()", t.x.packed(), ClassFrames.STATE);
            Due.is("undone: plant(0, 0, 0)", t.x.plant(0, 0, 0), ClassFrames.STATE);
            Due.is("undone: size(0)", t.x.size(0), change == 3 ? ClassFrames.BAD : ClassFrames.STATE);
            Due.is("undone: kind(0, 0)", t.x.kind(0, 0), change == 3 ? ClassFrames.BAD : ClassFrames.STATE);
            Due.is("undone: count(3)", t.x.count(3), 0);
            Due.is("undone: count(4)", t.x.count(4), 0);
        }
    }

    /** "No CODE, HANDLERS, PARAMETERS: how many INSTRUCTIONS there were. (ARGUMENTS stay.)" */
    private static void cleared() {
        Trial t = whole();
        Due.is("clear()", t.x.clear(), 9);
        Due.is("clear() again", t.x.clear(), 0);
        for (int what = 0; what <= 4; what++) {
            Due.is("cleared: count(" + what + ")", t.x.count(what), 0);
        }
        Due.is("cleared: make()", t.x.make(), -9);
        Due.is("cleared: ARGUMENT 0", t.x.argument(0, 0), 1);
        Due.is("cleared: ARGUMENT 7", t.x.argument(7, 0), -2);
        t.more("0; 10; 23").faulty(2, 1);
        t.x.clear();
        t.more("1; 10; 23; 23").makes(0).locals(0, "").dead(3).returns(-1, 0);
        t.x.clear();
        t.more("5; 22; 10; 23").makes(0).throwsAt(1, 0);
        Due.is("how many there were, of four", t.x.clear(), 4);
    }

    /** There is room again for all of them. */
    private static void clearedFull() {
        Trial t = new Trial("full twice", "");
        for (int round = 0; round < 2; round++) {
            for (int i = 0; i < 4; i++) {
                Due.is("COUNT " + i, t.x.parameter(2), 2 * i);
            }
            for (int h = 0; h < 6; h++) {
                Due.is("HANDLER " + h, t.x.handler(0, 60, 59, 7 + round), h);
            }
            for (int p = 0; p < 60; p++) {
                Due.is("PLACE " + p, t.x.operation(23, 0, 0), p);
            }
            t.makes(1).frame(0, 59, "23232323", round == 0 ? "7" : "8").fits();
            Due.is("clear() of sixty", t.x.clear(), 60);
        }
    }

    /** "The FAULT OF CODE of the latest make(), run(); 0: it had none." */
    private static void faultOfTheLatest() {
        Trial t = new Trial("latest", "1; 25 3; 10; 23").faulty(2, 2).returns(-1, 0);
        Due.is("of run(), behind make()", t.x.fault(), 0);
        t.faulty(2, 2);
        Due.is("run(0)", t.x.run(0), 2);
        Due.is("of a run() of no STEP", t.x.fault(), 0);
        t.faulty(2, 2);
        t.x.run(301);
        t.x.judge();
        t.x.packed();
        t.x.operation(23, 0, 0);
        t.x.clear();
        Due.is("no other call changes it", t.x.fault(), 2);
        t.more("6; 22").throwsAt(1, 0);
        Due.is("what is THROWN is none", t.x.fault(), 0);
        t.x.clear();
        t.more("10").endsAt(2, 0);
        t.x.clear();
        t.more("23").makes(0);
        Due.is("of make(), behind run()", t.x.fault(), 0);
    }

    /** "An object is used for at most 512 calls": the last of them answers as the first; the dearest ones, too. */
    private static void manyCalls() {
        ClassFrames x = new ClassFrames();
        for (int i = 0; i < 511; i++) {
            x.argument(i % 8, i);
        }
        Due.is("the 512th call", x.argument(7, 0), 503);
        ClassFrames y = new ClassFrames();
        y.operation(24, 0, 0);
        for (int i = 1; i < 511; i++) {
            Due.is("a run of 300 STEPS", y.run(300), 2);
        }
        Due.is("the 512th call is told()", y.told(3), 300);
        ClassFrames z = new ClassFrames();
        z.operation(23, 0, 0);
        for (int i = 1; i < 511; i++) {
            Due.is("make()", z.make(), 0);
        }
        Due.is("the 512th call is judge()", z.judge(), 1);
    }

    /** One object knows nothing of another. */
    private static void twoObjects() {
        Trial one = whole();
        List<Long> before = one.all();
        Trial other = new Trial("another", "5; 22", 2).handler(0, 2, 1, 7).argument(0, 99).makes(1).plant(0, 2, 0);
        other.x.packed();
        other.x.run(300);
        other.x.clear();
        Due.holds("the one is as it was", before.equals(one.all()));
    }
}
