/** Promises 1 to 4, 17 and 18: a new object, parameter, operation, handler, count, clear. */
public final class CodeTest {
    public static void main(String[] args) {
        newObject();
        parameters();
        operations();
        handlers();
        counts();
        cleared();
        undone();
        Due.end();
    }

    private static void newObject() {
        ClassFrames x = new ClassFrames();
        for (int what = 0; what <= 5; what++) {
            Due.is("new: count(" + what + ")", x.count(what), 0);
        }
        for (int what = -1; what <= 5; what++) {
            Due.is("new: told(" + what + ")", x.told(what), 0);
        }
        Due.is("new: fault()", x.fault(), 0);
        Due.is("new: kind(0, 0)", x.kind(0, 0), ClassFrames.BAD);
        Due.is("new: size(0)", x.size(0), ClassFrames.BAD);
        Due.is("new: frame(0, 0)", x.frame(0, 0), ClassFrames.STATE);
        Due.is("new: plant(0, 0, 0)", x.plant(0, 0, 0), ClassFrames.STATE);
        Due.is("new: judge()", x.judge(), ClassFrames.STATE);
        Due.is("new: packed()", x.packed(), ClassFrames.STATE);
        Due.is("new: out(0)", Due.byteOrThrown(x, 0), -100);
        for (int i = 0; i < 8; i++) {
            Due.is("new: argument(" + i + ")", x.argument(i, 0), 0);
        }
        Due.is("new: make()", x.make(), -9);
        Due.is("new: fault() behind make()", x.fault(), 6);
        Due.is("new: clear()", x.clear(), 0);
    }

    private static void parameters() {
        ClassFrames x = new ClassFrames();
        for (int kind : new int[] {Integer.MIN_VALUE, -1, 0, 3, 4, 9, Integer.MAX_VALUE}) {
            Due.is("parameter(" + kind + ")", x.parameter(kind), ClassFrames.BAD);
        }
        Due.is("parameter(1)", x.parameter(1), 0);
        Due.is("parameter(2)", x.parameter(2), 1);
        Due.is("parameter(5)", x.parameter(5), 3);
        Due.is("parameter(6)", x.parameter(6), 4);
        Due.is("parameter(7)", x.parameter(7), 5);
        Due.is("parameter(8)", x.parameter(8), 6);
        Due.is("a COUNT without room for its HALF", x.parameter(2), ClassFrames.FULL);
        Due.is("seven LOCALS", x.count(2), 7);
        Due.is("the last LOCAL", x.parameter(1), 7);
        Due.is("a ninth LOCAL", x.parameter(1), ClassFrames.FULL);
        Due.is("BAD ahead of FULL", x.parameter(4), ClassFrames.BAD);
        Due.code(x, Due.op(23));
        Due.is("make()", x.make(), 0);
        int[] due = {1, 2, 3, 5, 6, 7, 8, 1};
        for (int i = 0; i < 8; i++) {
            Due.is("kind(0, " + i + ")", x.kind(0, i), due[i]);
        }
    }

    private static void operations() {
        ClassFrames x = new ClassFrames();
        for (int op : new int[] {Integer.MIN_VALUE, -1, 29, Integer.MAX_VALUE}) {
            Due.is("operation(" + op + ", 5, 0)", x.operation(op, 5, 0), ClassFrames.BAD);
        }
        for (int kind : new int[] {-1, 0, 4, 9}) {
            Due.is("operation(21, " + kind + ", 0)", x.operation(21, kind, 0), ClassFrames.BAD);
        }
        int place = 0;
        for (int kind = 5; kind <= 8; kind++) {
            Due.is("operation(21, " + kind + ", 0)", x.operation(21, kind, 0), place++);
        }
        for (int op = 0; op <= 28; op++) {
            if (op != 21) {
                Due.is("operation(" + op + ", ..)", x.operation(op, Integer.MIN_VALUE, Integer.MAX_VALUE), place++);
            }
        }
        while (place < 60) {
            Due.is("operation(0, 0, 0)", x.operation(0, 0, 0), place++);
        }
        Due.is("the 61st", x.operation(0, 0, 0), ClassFrames.FULL);
        Due.is("BAD ahead of FULL", x.operation(29, 0, 0), ClassFrames.BAD);
        Due.is("BAD ahead of FULL, 21", x.operation(21, 4, 0), ClassFrames.BAD);
        Due.is("count(0)", x.count(0), 60);
    }

    private static void handlers() {
        ClassFrames x = new ClassFrames();
        for (int off : new int[] {Integer.MIN_VALUE, -1, 61, Integer.MAX_VALUE}) {
            Due.is("from " + off, x.handler(off, 1, 0, 7), ClassFrames.BAD);
            Due.is("to " + off, x.handler(0, off, 0, 7), ClassFrames.BAD);
            Due.is("at " + off, x.handler(0, 1, off, 7), ClassFrames.BAD);
        }
        for (int kind : new int[] {-1, 0, 5, 6, 9}) {
            Due.is("kind " + kind, x.handler(0, 1, 0, kind), ClassFrames.BAD);
        }
        Due.is("first", x.handler(0, 60, 60, 7), 0);
        Due.is("turned round", x.handler(60, 0, 0, 8), 1);
        for (int h = 2; h < 6; h++) {
            Due.is("handler " + h, x.handler(0, 0, 0, 8), h);
        }
        Due.is("the seventh", x.handler(0, 0, 0, 8), ClassFrames.FULL);
        Due.is("BAD ahead of FULL", x.handler(0, 0, 0, 9), ClassFrames.BAD);
        Due.is("count(1)", x.count(1), 6);
    }

    private static void counts() {
        ClassFrames x = new ClassFrames();
        x.parameter(2);
        Due.code(x, Due.op(24, 3), Due.op(0), Due.op(0), Due.op(23));
        x.handler(0, 1, 2, 7);
        Due.is("nothing MADE: FRAMES", x.count(3), 0);
        Due.is("nothing MADE: DEAD", x.count(4), 0);
        Due.is("make() of unlike STACKS", x.make(), -12);
        Due.is("fault()", x.fault(), 5);
        Due.is("FRAMES", x.count(3), 0);
        Due.is("DEAD", x.count(4), 0);
        x.clear();
        Due.code(x, Due.op(24, 3), Due.op(0), Due.op(0), Due.op(23));
        Due.is("make()", x.make(), 1);
        Due.is("INSTRUCTIONS", x.count(0), 4);
        Due.is("HANDLERS", x.count(1), 0);
        Due.is("FRAMES", x.count(3), 1);
        Due.is("DEAD", x.count(4), 2);
        Due.is("ROUNDS", x.count(5), 2);
        Due.is("count(-1)", x.count(-1), ClassFrames.BAD);
        Due.is("count(6)", x.count(6), ClassFrames.BAD);
    }

    private static void cleared() {
        ClassFrames x = new ClassFrames();
        x.parameter(1);
        x.parameter(2);
        x.handler(0, 1, 0, 7);
        x.argument(0, 9);
        Due.code(x, Due.op(8, 0), Due.op(23));
        x.clear();
        x.parameter(1);
        Due.code(x, Due.op(8, 0), Due.op(24, 2), Due.op(23));
        Due.is("make()", x.make(), 1);
        Due.is("packed()", x.packed(), 2);
        Due.is("run(9)", x.run(9), 0);
        Due.is("clear()", x.clear(), 3);
        for (int what = 0; what <= 4; what++) {
            Due.is("cleared: count(" + what + ")", x.count(what), 0);
        }
        Due.is("cleared: ROUNDS of the latest make()", x.count(5), 2);
        Due.is("cleared: told(1)", x.told(1), 9);
        Due.is("cleared: what was PACKED latest", Due.byteOrThrown(x, 0), 66);
        Due.is("cleared: ARGUMENT 0 stays", x.argument(0, 1), 9);
        Due.is("cleared: parameter(1)", x.parameter(1), 0);
        Due.is("cleared: handler", x.handler(0, 0, 0, 7), 0);
        Due.is("cleared: operation", x.operation(23, 0, 0), 0);
    }

    private static void undone() {
        ClassFrames x = new ClassFrames();
        Due.code(x, Due.op(23));
        for (int change = 0; change < 4; change++) {
            Due.is("make()", x.make() >= 0 ? 1 : 0, 1);
            x.operation(29, 0, 0);
            x.parameter(0);
            x.handler(0, 0, 0, 6);
            x.argument(3, 3);
            Due.is("what is BAD undoes nothing", x.judge(), 1);
            Due.is("a run undoes nothing", x.run(5) * 10 + x.judge(), 1);
            if (change == 0) {
                x.parameter(1);
            } else if (change == 1) {
                x.handler(0, 0, 0, 7);
            } else if (change == 2) {
                x.operation(23, 0, 0);
            } else {
                x.clear();
            }
            Due.is("undone: judge()", x.judge(), ClassFrames.STATE);
            Due.is("undone: packed()", x.packed(), ClassFrames.STATE);
            Due.is("undone: frame(0, 0)", x.frame(0, 0), ClassFrames.STATE);
            Due.is("undone: plant(0, 0, 1)", x.plant(0, 0, 1), ClassFrames.STATE);
            Due.is("undone: kind(0, 0)", x.kind(0, 0), change == 3 ? ClassFrames.BAD : ClassFrames.STATE);
            Due.is("undone: size(0)", x.size(0), change == 3 ? ClassFrames.BAD : ClassFrames.STATE);
            Due.is("undone: count(3)", x.count(3), 0);
            Due.is("undone: count(4)", x.count(4), 0);
        }
        fullUndoesNothing();
    }

    private static void fullUndoesNothing() {
        ClassFrames x = new ClassFrames();
        for (int i = 0; i < 60; i++) {
            x.operation(23, 0, 0);
        }
        for (int i = 0; i < 8; i++) {
            x.parameter(1);
        }
        for (int i = 0; i < 6; i++) {
            x.handler(0, 0, 59, 7);
        }
        Due.is("make() of sixty", x.make(), 0);
        x.operation(23, 0, 0);
        x.parameter(1);
        x.handler(0, 0, 0, 7);
        Due.is("what is FULL undoes nothing", x.judge(), 1);
    }
}
