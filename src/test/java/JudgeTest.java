/** Promises 10 and 11: plant, judge. */
public final class JudgeTest {
    public static void main(String[] args) {
        planted();
        tornCounts();
        whatCame();
        handlersKept();
        jumps();
        ops();
        goesAs();
        Due.end();
    }

    private static void planted() {
        ClassFrames x = new ClassFrames();
        x.parameter(1);
        Due.code(x, Due.op(3), Due.op(24, 2), Due.op(23));
        Due.is("nothing MADE", x.plant(0, 0, 1), ClassFrames.STATE);
        Due.is("BAD ahead of STATE", x.plant(0, 0, 9), ClassFrames.BAD);
        Due.is("make()", x.make(), 1);
        Due.is("f below 0", x.plant(-1, 0, 1), ClassFrames.BAD);
        Due.is("i below 0", x.plant(0, -1, 1), ClassFrames.BAD);
        Due.is("kind -1", x.plant(0, 0, -1), ClassFrames.BAD);
        Due.is("kind 9", x.plant(0, 0, 9), ClassFrames.BAD);
        Due.is("no such FRAME", x.plant(1, 0, 1), ClassFrames.NONE);
        Due.is("no such entry", x.plant(0, 2, 1), ClassFrames.NONE);
        Due.is("no such entry at all", x.plant(0, Integer.MAX_VALUE, 1), ClassFrames.NONE);
        int before = 1;
        for (int kind = 0; kind <= 8; kind++) {
            Due.is("LOCAL 0 becomes " + kind, x.plant(0, 0, kind), before);
            Due.is("frame(0, 3)", x.frame(0, 3), kind);
            before = kind;
        }
        Due.is("the STACK becomes 5", x.plant(0, 1, 5), 4);
        Due.is("frame(0, 4)", x.frame(0, 4), 5);
        Due.is("how many LOCALS stays", x.plant(0, 0, 0) + 10 * x.frame(0, 1), 18);
        Due.is("kind() tells what was MADE", x.kind(2, 0), 1);
        Due.is("kind() of the STACK, too", x.kind(2, 8), 4);
        x.make();
        Due.is("made anew", x.frame(0, 3), 1);
        Due.is("made anew: judge()", x.judge(), 1);
    }

    private static void tornCounts() {
        ClassFrames x = new ClassFrames();
        x.parameter(2);
        Due.code(x, Due.op(2), Due.op(24, 3), Due.op(23), Due.op(24, 4), Due.op(23));
        Due.is("make()", x.make(), 2);
        Due.is("judge()", x.judge(), 1);
        x.plant(1, 1, 0);
        Due.is("a COUNT alone in LOCALS", x.judge(), -14);
        x.plant(1, 0, 0);
        Due.is("both TOP", x.judge(), 1);
        x.plant(1, 1, 3);
        Due.is("a HALF alone", x.judge(), -14);
        x.plant(0, 3, 1);
        Due.is("a COUNT alone on the STACK, an earlier FRAME", x.judge(), -13);
        x.make();
        x.plant(1, 2, 3);
        x.plant(1, 3, 2);
        Due.is("a HALF ahead of its COUNT", x.judge(), -14);
        x.make();
        x.plant(0, 0, 1);
        x.plant(0, 1, 1);
        Due.is("INTS where a COUNT came", x.judge(), -11);
        x.plant(1, 0, 1);
        Due.is("a torn one ahead of all else", x.judge(), -14);
        x.make();
        x.plant(1, 1, 2);
        x.plant(1, 2, 3);
        Due.is("a COUNT over LOCALS and STACK is none", x.judge(), -14);
    }

    private static void whatCame() {
        ClassFrames x = new ClassFrames();
        x.parameter(8);
        Due.code(x, Due.op(0), Due.op(1, 1), Due.op(25, 0), Due.op(23));
        Due.is("make()", x.make(), 1);
        Due.is("FRAME at 0", x.frame(0, 0), 0);
        x.plant(0, 0, 7);
        Due.is("PARAMETERS go as it, and it as itself", x.judge(), 1);
        x.plant(0, 0, 6);
        Due.is("PARAMETERS do not go as it", x.judge(), -10);
        x.clear();
        x.parameter(1);
        Due.code(x, Due.op(8, 0), Due.op(25, 3), Due.op(0), Due.op(23));
        x.make();
        x.plant(0, 0, 6);
        Due.is("by a jump first", x.judge(), -11);
        x.clear();
        x.parameter(1);
        Due.code(x, Due.op(0), Due.op(24, 4), Due.op(0), Due.op(0), Due.op(23));
        x.handler(2, 3, 4, 7);
        x.make();
        x.plant(0, 0, 5);
        Due.is("nothing DEAD is judged", x.judge(), -11);
        x.clear();
        Due.code(x, Due.op(3), Due.op(9, 0), Due.op(0), Due.op(1), Due.op(25, 2), Due.op(23));
        x.make();
        x.plant(0, 0, 6);
        Due.is("NIL came; a ROW goes back as it", x.judge(), 1);
        x.plant(0, 0, 1);
        Due.is("what went on to it does not", x.judge(), -12);
    }

    private static void handlersKept() {
        ClassFrames x = new ClassFrames();
        x.parameter(6);
        Due.code(x, Due.op(0), Due.op(0), Due.op(23), Due.op(10), Due.op(23));
        x.handler(1, 2, 3, 8);
        Due.is("make()", x.make(), 1);
        Due.is("judge()", x.judge(), 1);
        for (int kind = 0; kind <= 8; kind++) {
            boolean so = kind == 0 || kind == 5 || kind == 7 || kind == 8;
            x.plant(0, 1, kind);
            Due.is("a MARK for kind " + kind, x.judge(), so ? 1 : kind == 2 || kind == 3 ? -13 : -11);
        }
        x.make();
        x.plant(0, 0, 5);
        Due.is("a ROW goes as a THING", x.judge(), 1);
        x.plant(0, 0, 8);
        Due.is("LOCALS do not go as it", x.judge(), -11);
    }

    private static void jumps() {
        for (int op = 24; op <= 27; op++) {
            ClassFrames x = new ClassFrames();
            x.parameter(1);
            Due.code(x, op == 26 ? Due.op(3) : Due.op(1), Due.op(op == 24 ? 10 : 0), Due.op(op, 4, 5), Due.op(23), Due.op(23),
                    Due.op(23));
            x.make();
            Due.is(op + ": judge()", x.judge(), 1);
            x.plant(0, 0, 0);
            Due.is(op + ": to TOP", x.judge(), 1);
            x.plant(0, 0, 7);
            Due.is(op + ": to a FAULT", x.judge(), -12);
        }
        ClassFrames x = new ClassFrames();
        x.parameter(1);
        Due.code(x, Due.op(1), Due.op(27, 3, 4), Due.op(23), Due.op(23), Due.op(23));
        x.make();
        x.plant(1, 0, 4);
        Due.is("27: b, too", x.judge(), -11);
    }

    private static void ops() {
        ClassFrames x = new ClassFrames();
        x.parameter(1);
        Due.code(x, Due.op(3), Due.op(24, 3), Due.op(23), Due.op(19), Due.op(28, 0, 1), Due.op(23));
        x.make();
        x.plant(0, 1, 6);
        Due.is("a ROW", x.judge(), 1);
        x.plant(0, 1, 7);
        Due.is("19 of a FAULT", x.judge(), -13);
        x.plant(0, 1, 4);
        x.plant(0, 0, 0);
        Due.is("28 of TOP", x.judge(), -14);
        Due.is("fault() is of make() and run() alone", x.fault(), 0);
    }

    private static void goesAs() {
        boolean[][] so = new boolean[9][9];
        int[][] rows = {{4, 5}, {4, 6}, {4, 7}, {4, 8}, {6, 5}, {7, 5}, {8, 7}, {8, 5}};
        for (int[] row : rows) {
            so[row[0]][row[1]] = true;
        }
        for (int one : new int[] {1, 4, 5, 6, 7, 8}) {
            for (int other : new int[] {0, 1, 4, 5, 6, 7, 8}) {
                ClassFrames x = new ClassFrames();
                if (one != 4) {
                    x.parameter(one);
                } else {
                    Due.code(x, Due.op(3), Due.op(9, 0));
                }
                int at = x.count(0);
                Due.code(x, Due.op(24, at + 1), Due.op(23));
                x.make();
                x.plant(0, 0, other);
                boolean goes = one == other || other == 0 || so[one][other];
                Due.is(one + " GOES AS " + other, x.judge(), goes ? 1 : -10 - at);
            }
        }
    }
}
