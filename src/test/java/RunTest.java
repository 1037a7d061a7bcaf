/** Promises 14 to 16: argument, run, told; and fault() of a run. */
public final class RunTest {
    public static void main(String[] args) {
        arguments();
        argumentKinds();
        results();
        sums();
        rows();
        casts();
        ways();
        refusals();
        thrown();
        handlers();
        faults();
        steps();
        bad();
        full();
        unmade();
        Due.end();
    }

    /** Runs this code, behind which a RETURN stands: the kind and the number of the topmost. */
    private static void gives(String what, long kind, long number, int[]... rows) {
        ClassFrames x = new ClassFrames();
        Due.code(x, rows);
        Due.code(x, Due.op(23));
        Due.is(what + ": run(300)", x.run(300), 0);
        Due.is(what + ": told(0)", x.told(0), kind);
        Due.is(what + ": told(1)", x.told(1), number);
        Due.is(what + ": told(4)", x.told(4), 0);
        Due.is(what + ": fault()", x.fault(), 0);
    }

    /** What no HANDLER takes of this code: its CODE. */
    private static void refuses(String what, int refusal, int[]... rows) {
        ClassFrames x = new ClassFrames();
        Due.code(x, rows);
        Due.code(x, Due.op(23));
        Due.is(what + ": run(300)", x.run(300), 1);
        Due.is(what + ": told(0)", x.told(0), -1);
        Due.is(what + ": told(1)", x.told(1), 0);
        Due.is(what + ": told(2)", x.told(2), rows.length - 1);
        Due.is(what + ": told(3)", x.told(3), rows.length);
        Due.is(what + ": told(4)", x.told(4), refusal);
        Due.is(what + ": fault()", x.fault(), 0);
    }

    private static void ends(String what, ClassFrames x, int fault, int place) {
        Due.is(what + ": run(300)", x.run(300), -10 - place);
        Due.is(what + ": fault()", x.fault(), fault);
        Due.is(what + ": told(0)", x.told(0), -1);
        Due.is(what + ": told(1)", x.told(1), 0);
        Due.is(what + ": told(2)", x.told(2), place);
        Due.is(what + ": told(4)", x.told(4), 0);
    }

    private static void ends(String what, int fault, int place, int[]... rows) {
        ClassFrames x = new ClassFrames();
        Due.code(x, rows);
        ends(what, x, fault, place);
    }

    private static void arguments() {
        ClassFrames x = new ClassFrames();
        for (int i : new int[] {Integer.MIN_VALUE, -1, 8, Integer.MAX_VALUE}) {
            Due.is("argument(" + i + ", 1)", x.argument(i, 1), ClassFrames.BAD);
        }
        for (int i = 0; i < 8; i++) {
            Due.is("argument(" + i + ", ..)", x.argument(i, Long.MIN_VALUE + i), 0);
        }
        for (int i = 0; i < 8; i++) {
            Due.is("argument(" + i + ", 0)", x.argument(i, -2), Long.MIN_VALUE + i);
            Due.is("argument(" + i + ", 0), -2", x.argument(i, 0), -2);
        }
    }

    private static ClassFrames given(int kind, long v) {
        ClassFrames x = new ClassFrames();
        x.parameter(1);
        x.parameter(kind);
        x.argument(0, 77);
        x.argument(1, v);
        x.argument(2, 99);
        Due.code(x, Due.op(8, 1), Due.op(23));
        Due.is("given: run(9)", x.run(9), 0);
        return x;
    }

    private static void argumentKinds() {
        long[][] due = {{1, 5, 1, 5}, {1, 0x1_8000_0000L, 1, Integer.MIN_VALUE}, {1, -1, 1, -1}, {2, Long.MIN_VALUE, 2, Long.MIN_VALUE},
            {2, 0x1_8000_0000L, 2, 0x1_8000_0000L}, {5, -1, 4, 0}, {5, 0, 5, 0}, {6, -1, 4, 0}, {6, Long.MIN_VALUE, 4, 0},
            {6, 0, 6, 0}, {6, 7, 6, 7}, {6, 8, 6, 0}, {6, Long.MAX_VALUE, 6, 7}, {6, 13, 6, 5}, {7, 9, 7, 0}, {7, -9, 4, 0},
            {8, 9, 8, 0}, {8, -1, 4, 0}};
        for (long[] row : due) {
            ClassFrames x = given((int) row[0], row[1]);
            Due.is("of " + row[0] + " by " + row[1] + ": told(0)", x.told(0), row[2]);
            Due.is("of " + row[0] + " by " + row[1] + ": told(1)", x.told(1), row[3]);
        }
        ClassFrames x = new ClassFrames();
        x.argument(0, 7);
        Due.code(x, Due.op(8, 0), Due.op(23));
        ends("no PARAMETER, no LOCAL", x, 1, 0);
    }

    private static void results() {
        gives("nothing", -1, 0, Due.op(0));
        gives("1", 1, -7, Due.op(1, -7));
        gives("2", 2, Integer.MIN_VALUE, Due.op(2, Integer.MIN_VALUE));
        gives("3", 4, 0, Due.op(3));
        gives("4", 5, 0, Due.op(4, 9));
        gives("5", 7, 0, Due.op(5, 9));
        gives("6", 8, -9, Due.op(6, -9));
        gives("7", 6, 20, Due.op(1, 20), Due.op(7));
        gives("20", 1, 9, Due.op(6, 9), Due.op(20));
        gives("8, 9", 1, 4, Due.op(1, 4), Due.op(9, 3), Due.op(1, 5), Due.op(9, 4), Due.op(8, 3));
        gives("8, 9 of a COUNT", 2, 4, Due.op(2, 4), Due.op(9, 6), Due.op(2, 5), Due.op(9, 0), Due.op(8, 6));
        gives("10", 1, 4, Due.op(1, 4), Due.op(1, 5), Due.op(10));
        gives("11", 1, 4, Due.op(1, 4), Due.op(2, 5), Due.op(11));
        gives("28", 1, Integer.MIN_VALUE, Due.op(1, Integer.MAX_VALUE), Due.op(9, 2), Due.op(28, 2, 1), Due.op(8, 2));
        gives("28 down", 1, -3, Due.op(1, 4), Due.op(9, 0), Due.op(28, 0, -7), Due.op(8, 0));
    }

    private static void sums() {
        gives("12", 1, 3, Due.op(1, 5), Due.op(1, -2), Due.op(12));
        gives("12 round", 1, Integer.MIN_VALUE, Due.op(1, Integer.MAX_VALUE), Due.op(1, 1), Due.op(12));
        gives("13", 1, -3, Due.op(1, -7), Due.op(1, 2), Due.op(13));
        gives("13, which by which", 1, 0, Due.op(1, 2), Due.op(1, 7), Due.op(13));
        gives("13 of the least by -1", 1, Integer.MIN_VALUE, Due.op(1, Integer.MIN_VALUE), Due.op(1, -1), Due.op(13));
        gives("14", 2, 2L * Integer.MAX_VALUE, Due.op(2, Integer.MAX_VALUE), Due.op(2, Integer.MAX_VALUE), Due.op(14));
        gives("15", 1, -2, Due.op(2, Integer.MAX_VALUE), Due.op(2, Integer.MAX_VALUE), Due.op(14), Due.op(15));
        gives("16", 2, -5, Due.op(1, -5), Due.op(16));
        ClassFrames x = new ClassFrames();
        x.parameter(2);
        x.argument(0, Long.MAX_VALUE);
        Due.code(x, Due.op(8, 0), Due.op(2, 1), Due.op(14), Due.op(23));
        Due.is("14 round", x.run(9), 0);
        Due.is("14 round: told(1)", x.told(1), Long.MIN_VALUE);
    }

    private static void rows() {
        int[] make = Due.op(7);
        gives("a new cell", 1, 0, Due.op(1, 3), make, Due.op(1, 2), Due.op(17));
        gives("19", 1, 3, Due.op(1, 3), make, Due.op(19));
        gives("19 of none", 1, 0, Due.op(1, 0), make, Due.op(19));
        int[][] change = {{1, 3}, {7}, {9, 0}, {1, 2}, {7}, {9, 1}, {8, 0}, {9, 2}, {8, 0}, {1, 1}, {1, 55}, {18}, {8, 1}, {1, 1},
            {1, 66}, {18}};
        reads("the ROW", 55, change, 0, 1);
        reads("the same ROW in another LOCAL", 55, change, 2, 1);
        reads("another ROW", 66, change, 1, 1);
        reads("another cell", 0, change, 0, 2);
        gives("the first cell", 1, 0, Due.op(1, 1), make, Due.op(1, 0), Due.op(17));
        manyRows();
        ClassFrames x = new ClassFrames();
        Due.code(x, change);
        Due.code(x, Due.op(8, 0), Due.op(1, 1), Due.op(17), Due.op(23), Due.op(8, 0));
        x.run(300);
        x.clear();
        Due.code(x, Due.op(1, 3), make, Due.op(1, 1), Due.op(17), Due.op(23));
        x.run(300);
        Due.is("a new ROW in a later run has cells 0", x.told(1), 0);
    }

    /** As many ROWS as STEPS can make, again and again on one object. */
    private static void manyRows() {
        ClassFrames x = new ClassFrames();
        for (int i = 0; i < 8; i++) {
            x.parameter(6);
            x.argument(i, 7);
        }
        Due.code(x, Due.op(1, 20), Due.op(7), Due.op(9, 0), Due.op(24, 0));
        for (int i = 0; i < 20; i++) {
            Due.is("75 ROWS more", x.run(300), 2);
        }
        x.clear();
        Due.code(x, Due.op(1, 20), Due.op(7), Due.op(23));
        x.run(9);
        Due.is("one more", x.told(1), 20);
        denseRows();
    }

    /** Four ROWS in thirteen STEPS, thrown away by a FAULT, till LOCAL 0 is 0. */
    private static void denseRows() {
        ClassFrames x = new ClassFrames();
        x.parameter(1);
        x.argument(0, 22);
        for (int i = 1; i < 8; i++) {
            x.parameter(6);
            x.argument(i, 7);
        }
        Due.code(x, Due.op(28, 0, -1), Due.op(8, 0), Due.op(25, 13), Due.op(1, 20), Due.op(7), Due.op(1, 20), Due.op(7), Due.op(1, 20),
                Due.op(7), Due.op(1, 20), Due.op(7), Due.op(3), Due.op(22), Due.op(1, 20), Due.op(7), Due.op(9, 0), Due.op(8, 0),
                Due.op(1, 19), Due.op(1, 6), Due.op(18), Due.op(8, 0), Due.op(1, 19), Due.op(17), Due.op(23));
        x.handler(12, 13, 0, 7);
        Due.is("dense ROWS: run(300)", x.run(300), 0);
        Due.is("dense ROWS: told(1)", x.told(1), 6);
        Due.is("dense ROWS: told(3)", x.told(3), 21 * 13 + 3 + 11);
    }

    private static void reads(String what, int due, int[][] change, int local, int cell) {
        int[][] rows = new int[change.length + 3][];
        System.arraycopy(change, 0, rows, 0, change.length);
        rows[change.length] = Due.op(8, local);
        rows[change.length + 1] = Due.op(1, cell);
        rows[change.length + 2] = Due.op(17);
        gives(what, 1, due, rows);
    }

    private static void casts() {
        int[][] news = {{3}, {4}, {5}, {6, 3}};
        int[] kinds = {4, 5, 7, 8};
        boolean[][] of = {{true, true, true, true}, {true, false, false, false}, {true, false, true, false}, {true, false, true, true}};
        for (int n = 0; n < news.length; n++) {
            for (int a = 5; a <= 8; a++) {
                if (of[n][a - 5]) {
                    gives(kinds[n] + " as " + a, kinds[n], kinds[n] == 8 ? 3 : 0, news[n], Due.op(21, a));
                } else {
                    refuses(kinds[n] + " as " + a, 4, news[n], Due.op(21, a));
                }
            }
        }
        gives("a ROW as a THING", 6, 2, Due.op(1, 2), Due.op(7), Due.op(21, 5));
        refuses("a ROW as a FAULT", 4, Due.op(1, 2), Due.op(7), Due.op(21, 7));
    }

    private static void ways() {
        int[] kinds = {25, 26, 27, 27, 27};
        int[][] takes = {{1, 0}, {3}, {1, 0}, {1, 1}, {1, 2}};
        int[][] skips = {{1, 1}, {4}, {1, -1}, {1, 3}, {1, 4}};
        int[] due = {5, 5, 5, 7, 3};
        for (int i = 0; i < kinds.length; i++) {
            ends(kinds[i], takes[i], due[i]);
            ends(kinds[i], skips[i], 3);
        }
        ClassFrames x = new ClassFrames();
        Due.code(x, Due.op(24, 2), Due.op(23), Due.op(24, 1));
        x.run(9);
        Due.is("24: told(2)", x.told(2), 1);
        Due.is("24: told(3)", x.told(3), 3);
    }

    private static void ends(int op, int[] first, int place) {
        ClassFrames x = new ClassFrames();
        Due.code(x, first, Due.op(op, 5, 7), Due.op(0), Due.op(23), Due.op(23), Due.op(23), Due.op(23), Due.op(23));
        Due.is(op + " of " + first[0] + ": run(9)", x.run(9), 0);
        Due.is(op + " of " + first[0] + ": told(2)", x.told(2), place);
        Due.is(op + " of " + first[0] + ": the STACK is empty", x.told(0), -1);
    }

    private static void refusals() {
        refuses("17 of NIL", 1, Due.op(3), Due.op(1, 0), Due.op(17));
        refuses("18 of NIL", 1, Due.op(3), Due.op(1, 0), Due.op(1, 0), Due.op(18));
        refuses("19 of NIL", 1, Due.op(3), Due.op(19));
        refuses("20 of NIL", 1, Due.op(3), Due.op(20));
        refuses("22 of NIL", 1, Due.op(3), Due.op(22));
        for (int i : new int[] {Integer.MIN_VALUE, -1, 2, Integer.MAX_VALUE}) {
            refuses("cell " + i, 2, Due.op(1, 2), Due.op(7), Due.op(1, i), Due.op(17));
            refuses("to cell " + i, 2, Due.op(1, 2), Due.op(7), Due.op(1, i), Due.op(1, 0), Due.op(18));
        }
        refuses("a ROW below 0", 3, Due.op(1, -1), Due.op(7));
        refuses("a ROW of the least", 3, Due.op(1, Integer.MIN_VALUE), Due.op(7));
        refuses("a quotient by 0", 5, Due.op(1, 1), Due.op(1, 0), Due.op(13));
        refuses("a ROW of 21", 6, Due.op(1, 21), Due.op(7));
        refuses("a ROW of the most", 6, Due.op(1, Integer.MAX_VALUE), Due.op(7));
    }

    private static void thrown() {
        refuses("a FAULT", 0, Due.op(5), Due.op(22));
        refuses("a MARK", 7, Due.op(6, 7), Due.op(22));
        ClassFrames x = new ClassFrames();
        Due.code(x, Due.op(1, 4), Due.op(6, 7), Due.op(22), Due.op(23));
        x.handler(2, 3, 3, 8);
        Due.is("a MARK taken", x.run(9), 0);
        Due.is("it alone: kind", x.told(0), 8);
        Due.is("it alone: CODE", x.told(1), 7);
        Due.is("STEPS", x.told(3), 4);
        x.clear();
        Due.code(x, Due.op(5), Due.op(22), Due.op(23));
        x.handler(0, 3, 2, 8);
        Due.is("a FAULT is no MARK", x.run(9), 1);
        Due.is("where it ended", x.told(2), 1);
        x.clear();
        Due.code(x, Due.op(3), Due.op(22), Due.op(23));
        x.handler(0, 3, 2, 8);
        Due.is("what the machine throws is no MARK", x.run(9), 1);
        x.handler(1, 2, 2, 7);
        Due.is("but a FAULT", x.run(9), 0);
        Due.is("its kind", x.told(0), 7);
        Due.is("its CODE", x.told(1), 1);
    }

    private static void handlers() {
        ClassFrames x = new ClassFrames();
        Due.code(x, Due.op(6, 1), Due.op(22), Due.op(23), Due.op(23), Due.op(23));
        x.handler(2, 5, 2, 7);
        x.handler(0, 1, 2, 7);
        x.handler(1, 2, 3, 8);
        x.handler(1, 2, 4, 7);
        x.run(9);
        Due.is("the first one that fits", x.told(2), 3);
        x.clear();
        Due.code(x, Due.op(1, 8), Due.op(9, 0), Due.op(5), Due.op(22), Due.op(8, 0), Due.op(23));
        x.handler(3, 4, 4, 7);
        x.run(9);
        Due.is("LOCALS stay", x.told(1), 8);
        x.clear();
        Due.code(x, Due.op(5), Due.op(22));
        x.handler(0, 9, 0, 7);
        Due.is("from a HANDLER to itself", x.run(300), 2);
        Due.is("STEPS", x.told(3), 300);
    }

    private static void faults() {
        ends("no CODE", 6, -1);
        ends("WRONG", 1, 1, Due.op(4), Due.op(7), Due.op(23));
        ends("EMPTY", 2, 0, Due.op(12), Due.op(23));
        ends("DEEP", 3, 6, Due.op(1), Due.op(1), Due.op(1), Due.op(1), Due.op(1), Due.op(1), Due.op(1), Due.op(23));
        ends("LOCAL", 4, 0, Due.op(8, 8), Due.op(23));
        ends("a HALF's LOCAL", 4, 1, Due.op(2), Due.op(9, 7), Due.op(23));
        ends("END", 6, 1, Due.op(1), Due.op(10));
        ends("TARGET", 7, 0, Due.op(24, 1));
        ends("TARGET below", 7, 1, Due.op(1), Due.op(25, -1), Due.op(23));
        ends("a COUNT that lost its HALF", 1, 4, Due.op(2), Due.op(9, 0), Due.op(1), Due.op(9, 1), Due.op(8, 0), Due.op(23));
        ends("a HALF", 1, 2, Due.op(2), Due.op(9, 0), Due.op(8, 1), Due.op(23));
        gives("a TARGET that is not taken", -1, 0, Due.op(1, 1), Due.op(25, 99));
        gives("kinds as they are in this run", 1, 3, Due.op(1, 3), Due.op(7), Due.op(21, 5), Due.op(19));
        ClassFrames x = new ClassFrames();
        Due.code(x, Due.op(5), Due.op(22));
        x.handler(0, 2, 2, 7);
        ends("a HANDLER's TARGET", x, 7, 1);
        Due.is("STEPS, the last one with them", x.told(3), 2);
    }

    private static void steps() {
        ClassFrames x = new ClassFrames();
        Due.code(x, Due.op(1, 5), Due.op(9, 0), Due.op(24, 1));
        Due.is("run(0)", x.run(0), 2);
        Due.is("run(0): told(2)", x.told(2), 0);
        Due.is("run(0): told(3)", x.told(3), 0);
        Due.is("run(2)", x.run(2), 2);
        Due.is("run(2): told(0)", x.told(0), -1);
        Due.is("run(2): told(2)", x.told(2), 2);
        Due.is("run(2): told(3)", x.told(3), 2);
        Due.is("run(3)", x.run(3), 2);
        Due.is("run(3): told(2)", x.told(2), 1);
        Due.is("run(4)", x.run(4), -11);
        Due.is("run(4): told(3)", x.told(3), 4);
        x.clear();
        Due.code(x, Due.op(0), Due.op(23));
        Due.is("run(1)", x.run(1), 2);
        Due.is("the last STEP may be RETURN", x.run(2), 0);
        Due.is("no CODE, no STEP", new ClassFrames().run(0), -9);
    }

    private static void bad() {
        ClassFrames x = new ClassFrames();
        Due.code(x, Due.op(1, 5), Due.op(23));
        for (int steps : new int[] {Integer.MIN_VALUE, -1, 301, Integer.MAX_VALUE}) {
            Due.is("run(" + steps + ")", x.run(steps), ClassFrames.BAD);
        }
        Due.is("BAD is no run", x.told(0), 0);
        x.run(300);
        x.run(301);
        Due.is("BAD changes nothing", x.told(1), 5);
        Due.is("told(-1)", x.told(-1), 0);
        Due.is("told(5)", x.told(5), 0);
        Due.is("told(MAX)", x.told(Integer.MAX_VALUE), 0);
    }

    /** Each run throws as many as it has pairs of STEPS; 22 of a FAULT is none of the machine's. */
    private static void full() {
        ClassFrames x = new ClassFrames();
        Due.code(x, Due.op(5), Due.op(22));
        x.handler(0, 2, 0, 7);
        for (int i = 0; i < 10; i++) {
            Due.is("thrown by CODE", x.run(300), 2);
        }
        x.clear();
        Due.code(x, Due.op(3), Due.op(22));
        x.handler(0, 2, 0, 7);
        for (int i = 0; i < 6; i++) {
            Due.is("150 more", x.run(300), 2);
        }
        Due.is("99 more", x.run(198), 2);
        Due.is("999 were THROWN", x.run(1), 2);
        x.clear();
        Due.code(x, Due.op(3), Due.op(22));
        Due.is("the 1000th", x.run(9), 1);
        Due.is("FULL", x.run(9), ClassFrames.FULL);
        Due.is("FULL, no STEPS", x.run(0), ClassFrames.FULL);
        Due.is("BAD ahead of FULL", x.run(301), ClassFrames.BAD);
        Due.is("FULL changes nothing", x.told(4), 1);
        Due.is("FULL changes nothing, STEPS", x.told(3), 2);
        x.clear();
        Due.is("FULL without CODE", x.run(9), ClassFrames.FULL);
        Due.is("fault() of the latest run", x.fault(), 0);
        ClassFrames y = new ClassFrames();
        Due.code(y, Due.op(3), Due.op(22));
        y.handler(0, 2, 0, 7);
        for (int i = 0; i < 7; i++) {
            Due.is("beyond 1000 in one run", y.run(300), 2);
        }
        Due.is("then FULL", y.run(1), ClassFrames.FULL);
    }

    /** A run needs nothing MADE; make() and run() share fault(). */
    private static void unmade() {
        ClassFrames x = new ClassFrames();
        Due.code(x, Due.op(1, 0), Due.op(25, 3), Due.op(12), Due.op(23));
        Due.is("make()", x.make(), -12);
        Due.is("fault() of make()", x.fault(), 2);
        Due.is("run(9)", x.run(9), 0);
        Due.is("fault() of run()", x.fault(), 0);
        x.make();
        Due.is("fault() of make() again", x.fault(), 2);
        joinedPop();
    }

    /** Kinds of a run may be WRONG where those of TO MAKE fit: one of two places that JOINED as TOP is a HALF. */
    private static void joinedPop() {
        ClassFrames x = new ClassFrames();
        x.parameter(1);
        Due.code(x, Due.op(8, 0), Due.op(25, 5), Due.op(2), Due.op(24, 7), Due.op(23), Due.op(1), Due.op(1), Due.op(10), Due.op(23));
        Due.is("POP of TOP: make()", x.make(), 2);
        Due.is("POP of TOP: run(9)", x.run(9), 0);
        x.argument(0, 1);
        ends("POP of a HALF", x, 1, 7);
        Due.is("still MADE", x.judge(), 1);
    }
}
