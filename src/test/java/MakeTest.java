/** Promises 5 to 9: make, fault, kind, size, frame. */
public final class MakeTest {
    public static void main(String[] args) {
        effects();
        wrongKinds();
        emptyStacks();
        deepStacks();
        locals();
        brokenCounts();
        ends();
        targets();
        orders();
        joins();
        handlers();
        rounds();
        frames();
        asked();
        Due.end();
    }

    /** make() of this code has that FAULT OF CODE at that PLACE. */
    private static void faulty(String what, int fault, int place, int[]... rows) {
        ClassFrames x = new ClassFrames();
        Due.code(x, rows);
        faulty(what, x, fault, place);
    }

    private static void faulty(String what, ClassFrames x, int fault, int place) {
        Due.is(what + ": make()", x.make(), -10 - place);
        Due.is(what + ": fault()", x.fault(), fault);
        Due.is(what + ": nothing is MADE", x.judge(), ClassFrames.STATE);
    }

    /** The STACK at that PLACE, its kinds as decimal digits. */
    private static void stack(String what, ClassFrames x, int at, String kinds) {
        Due.is(what + ": size(" + at + ")", x.size(at), kinds.length());
        for (int i = 0; i < kinds.length(); i++) {
            Due.is(what + ": kind(" + at + ", " + (8 + i) + ")", x.kind(at, 8 + i), kinds.charAt(i) - '0');
        }
        Due.is(what + ": behind the STACK", x.kind(at, 8 + kinds.length()), ClassFrames.NONE);
    }

    private static void locals(String what, ClassFrames x, int at, String kinds) {
        for (int i = 0; i < 8; i++) {
            Due.is(what + ": kind(" + at + ", " + i + ")", x.kind(at, i), i < kinds.length() ? kinds.charAt(i) - '0' : 0);
        }
    }

    /** What stands on the STACK behind the last row. */
    private static void leaves(String what, String kinds, int[]... rows) {
        ClassFrames x = new ClassFrames();
        Due.code(x, rows);
        Due.code(x, Due.op(23));
        Due.is(what + ": make()", x.make(), 0);
        Due.is(what + ": fault()", x.fault(), 0);
        stack(what, x, rows.length, kinds);
    }

    private static void effects() {
        int[] one = Due.op(1, 1);
        int[] many = Due.op(2, 1);
        int[] row = Due.op(7);
        leaves("0", "", Due.op(0));
        leaves("1", "1", one);
        leaves("2", "23", many);
        leaves("3", "4", Due.op(3));
        leaves("4", "5", Due.op(4));
        leaves("5", "7", Due.op(5));
        leaves("6", "8", Due.op(6));
        leaves("7", "6", one, row);
        leaves("8 and 9 of an INT", "1", one, Due.op(9, 7), Due.op(8, 7));
        leaves("8 and 9 of a COUNT", "23", many, Due.op(9, 6), Due.op(8, 6));
        leaves("8 and 9 of NIL", "4", Due.op(3), Due.op(9, 0), Due.op(8, 0));
        leaves("10", "1", one, Due.op(4), Due.op(10));
        leaves("11 of two", "1", one, one, Due.op(4), Due.op(11));
        leaves("11 of a COUNT", "1", one, many, Due.op(11));
        leaves("12", "1", one, one, Due.op(12));
        leaves("13", "1", one, one, Due.op(13));
        leaves("14", "23", many, many, Due.op(14));
        leaves("15", "1", many, Due.op(15));
        leaves("16", "23", one, Due.op(16));
        leaves("17", "1", one, row, one, Due.op(17));
        leaves("17 of NIL", "1", Due.op(3), one, Due.op(17));
        leaves("18", "", one, row, one, one, Due.op(18));
        leaves("18 of NIL", "", Due.op(3), one, one, Due.op(18));
        leaves("19", "1", one, row, Due.op(19));
        leaves("19 of NIL", "1", Due.op(3), Due.op(19));
        leaves("20 of a FAULT", "1", Due.op(5), Due.op(20));
        leaves("20 of a MARK", "1", Due.op(6), Due.op(20));
        leaves("20 of NIL", "1", Due.op(3), Due.op(20));
        for (int kind = 5; kind <= 8; kind++) {
            leaves("21 of NIL", "" + kind, Due.op(3), Due.op(21, kind));
            leaves("21 of a THING", "" + kind, Due.op(4), Due.op(21, kind));
            leaves("21 of a MARK", "" + kind, Due.op(6), Due.op(21, kind));
        }
    }

    private static void wrongKinds() {
        int[] one = Due.op(1, 1);
        int[] many = Due.op(2, 1);
        int[] thing = Due.op(4);
        faulty("7 of a THING", 1, 1, thing, Due.op(7), Due.op(23));
        faulty("7 of a COUNT", 1, 1, many, Due.op(7), Due.op(23));
        faulty("8 of TOP", 1, 0, Due.op(8, 3), Due.op(23));
        faulty("8 of a HALF", 1, 2, many, Due.op(9, 0), Due.op(8, 1), Due.op(23));
        faulty("10 of a HALF", 1, 1, many, Due.op(10), Due.op(23));
        faulty("11 of half a COUNT", 1, 2, many, one, Due.op(11), Due.op(23));
        faulty("12 of a COUNT", 1, 2, one, many, Due.op(12), Due.op(23));
        faulty("12 below", 1, 2, thing, one, Due.op(12), Due.op(23));
        faulty("13 of NIL", 1, 2, one, Due.op(3), Due.op(13), Due.op(23));
        faulty("14 below", 1, 3, one, one, many, Due.op(14), Due.op(23));
        faulty("15 of an INT", 1, 1, one, Due.op(15), Due.op(23));
        faulty("16 of a COUNT", 1, 1, many, Due.op(16), Due.op(23));
        faulty("17 of a THING", 1, 2, thing, one, Due.op(17), Due.op(23));
        faulty("18 of a FAULT", 1, 3, Due.op(5), one, one, Due.op(18), Due.op(23));
        faulty("19 of an INT", 1, 1, one, Due.op(19), Due.op(23));
        faulty("20 of a THING", 1, 1, thing, Due.op(20), Due.op(23));
        faulty("21 of an INT", 1, 1, one, Due.op(21, 5), Due.op(23));
        faulty("22 of a THING", 1, 1, thing, Due.op(22), Due.op(23));
        faulty("25 of NIL", 1, 1, Due.op(3), Due.op(25), Due.op(23));
        faulty("26 of an INT", 1, 1, one, Due.op(26), Due.op(23));
        faulty("27 of a THING", 1, 1, thing, Due.op(27), Due.op(23));
        faulty("28 of TOP", 1, 0, Due.op(28, 2, 1), Due.op(23));
        faulty("28 of a COUNT", 1, 2, many, Due.op(9, 0), Due.op(28, 0, 1), Due.op(23));
    }

    private static void emptyStacks() {
        for (int op : new int[] {7, 9, 10, 11, 12, 13, 14, 15, 16, 17, 18, 19, 20, 22, 25, 26, 27}) {
            faulty(op + " of nothing", 2, 0, Due.op(op), Due.op(23));
        }
        faulty("21 of nothing", 2, 0, Due.op(21, 5), Due.op(23));
        for (int op : new int[] {11, 12, 13, 17, 18}) {
            faulty(op + " of one", 2, 1, Due.op(1), Due.op(op), Due.op(23));
        }
        faulty("14 of one COUNT", 2, 1, Due.op(2), Due.op(14), Due.op(23));
        faulty("18 of two", 2, 2, Due.op(1), Due.op(1), Due.op(18), Due.op(23));
    }

    private static void deepStacks() {
        int[] one = Due.op(1, 1);
        int[] many = Due.op(2, 1);
        leaves("six", "111111", one, one, one, one, one, one);
        leaves("three COUNTS", "232323", many, many, many);
        faulty("the 7th", 3, 6, one, one, one, one, one, one, one, Due.op(23));
        faulty("half of a COUNT", 3, 5, one, one, one, one, one, many, Due.op(23));
        faulty("16 at six", 3, 6, one, one, one, one, one, one, Due.op(16), Due.op(23));
        faulty("8 at six", 3, 8, one, Due.op(9, 0), one, one, one, one, one, one, Due.op(8, 0), Due.op(23));
        leaves("7 at six", "111116", one, one, one, one, one, one, Due.op(7));
    }

    private static void locals() {
        for (int local : new int[] {Integer.MIN_VALUE, -1, 8, Integer.MAX_VALUE}) {
            faulty("8 of LOCAL " + local, 4, 0, Due.op(8, local), Due.op(23));
            faulty("9 of LOCAL " + local, 4, 1, Due.op(1), Due.op(9, local), Due.op(23));
            faulty("9 of a COUNT, LOCAL " + local, 4, 1, Due.op(2), Due.op(9, local), Due.op(23));
            faulty("28 of LOCAL " + local, 4, 0, Due.op(28, local), Due.op(23));
        }
        faulty("a HALF beyond 7", 4, 1, Due.op(2), Due.op(9, 7), Due.op(23));
    }

    private static void brokenCounts() {
        ClassFrames x = new ClassFrames();
        x.parameter(2);
        x.parameter(2);
        Due.code(x, Due.op(2, 0), Due.op(9, 1), Due.op(1, 0), Due.op(9, 2), Due.op(2, 0), Due.op(9, 2), Due.op(1, 0),
                Due.op(9, 2), Due.op(2, 0), Due.op(9, 0), Due.op(3), Due.op(9, 0), Due.op(23));
        Due.is("broken: make()", x.make(), 0);
        locals("PARAMETERS", x, 0, "2323");
        locals("a COUNT between two", x, 2, "0230");
        locals("an INT on a HALF", x, 4, "0010");
        locals("a COUNT again", x, 6, "0023");
        locals("an INT on a COUNT", x, 8, "0010");
        locals("a COUNT ahead", x, 10, "2310");
        locals("NIL on a COUNT", x, 12, "4010");
    }

    private static void ends() {
        faulty("no CODE", 6, -1);
        faulty("0 at the end", 6, 0, Due.op(0));
        faulty("25 at the end", 6, 1, Due.op(1), Due.op(25, 0));
        faulty("27 at the end", 6, 1, Due.op(1), Due.op(27, 0, 0));
        ClassFrames x = new ClassFrames();
        Due.code(x, Due.op(24, 0));
        Due.is("24 at the end", x.make(), 1);
        x.clear();
        Due.code(x, Due.op(5), Due.op(22));
        Due.is("22 at the end", x.make(), 0);
    }

    private static void targets() {
        for (int to : new int[] {Integer.MIN_VALUE, -1, 3, Integer.MAX_VALUE}) {
            faulty("24 to " + to, 7, 1, Due.op(0), Due.op(24, to), Due.op(23));
            faulty("25 to " + to, 7, 1, Due.op(1), Due.op(25, to), Due.op(23));
            faulty("26 to " + to, 7, 1, Due.op(3), Due.op(26, to), Due.op(23));
            faulty("27 to " + to, 7, 1, Due.op(1), Due.op(27, to, 2), Due.op(23));
            faulty("27, then to " + to, 7, 1, Due.op(1), Due.op(27, 2, to), Due.op(23));
        }
        ClassFrames x = new ClassFrames();
        Due.code(x, Due.op(0), Due.op(23), Due.op(23));
        x.handler(2, 3, 60, 7);
        Due.is("a HANDLER of DEAD ones", x.make(), 0);
        x.handler(1, 2, 3, 7);
        faulty("a HANDLER behind the last one", x, 7, 1);
        x.operation(10, 0, 0);
        x.operation(23, 0, 0);
        Due.is("now there is one", x.make(), 1);
    }

    /** Of one INSTRUCTION the document tells which FAULT comes first. */
    private static void orders() {
        ClassFrames x = new ClassFrames();
        Due.code(x, Due.op(12), Due.op(23));
        x.handler(0, 1, 9, 7);
        faulty("a HANDLER ahead of the STACK", x, 7, 0);
        faulty("topmost WRONG ahead of EMPTY below", 1, 1, Due.op(4), Due.op(12), Due.op(23));
        faulty("an INT where a COUNT's HALF is told", 1, 1, Due.op(1), Due.op(14), Due.op(23));
        faulty("topmost COUNT, then an INT", 1, 2, Due.op(1), Due.op(2), Due.op(14), Due.op(23));
        faulty("EMPTY ahead of LOCAL", 2, 0, Due.op(9, 9), Due.op(23));
        faulty("LOCAL ahead of its kind", 4, 0, Due.op(8, 9), Due.op(23));
        int[] one = Due.op(1);
        faulty("LOCAL ahead of DEEP", 4, 6, one, one, one, one, one, one, Due.op(8, 8), Due.op(23));
        faulty("a LOCAL's kind ahead of DEEP", 1, 6, one, one, one, one, one, one, Due.op(8, 0), Due.op(23));
        faulty("DEEP ahead of END", 3, 6, one, one, one, one, one, one, one);
        faulty("STACK ahead of TARGET", 2, 0, Due.op(25, 9));
        faulty("TARGET ahead of END", 7, 1, one, Due.op(25, 9));
        faulty("27: a ahead of b", 5, 2, one, one, Due.op(27, 0, 9), Due.op(23));
        faulty("UNLIKE ahead of END", 5, 2, one, one, Due.op(25, 0));
    }

    /** Two ways with one kind each that come together: what stands there. */
    private static int joined(int[][] one, int[][] other) {
        ClassFrames x = new ClassFrames();
        Due.code(x, Due.op(1), Due.op(25, 3 + one.length));
        Due.code(x, one);
        Due.code(x, Due.op(24, 3 + one.length + other.length));
        Due.code(x, other);
        Due.code(x, Due.op(23));
        Due.is("joined: make()", x.make(), 2);
        Due.is("joined: judge()", x.judge(), 1);
        return x.kind(3 + one.length + other.length, 8);
    }

    private static void joins() {
        int[][][] ways = {{}, {{1}}, {}, {}, {{3}}, {{4}}, {{1}, {7}}, {{5}}, {{6}}};
        int[][] due = {{1, 1, 1}, {4, 4, 4}, {5, 5, 5}, {6, 6, 6}, {7, 7, 7}, {8, 8, 8}, {1, 4, 0}, {1, 5, 0}, {1, 8, 0},
            {4, 5, 5}, {4, 6, 6}, {4, 7, 7}, {4, 8, 8}, {5, 6, 5}, {5, 7, 5}, {5, 8, 5}, {6, 7, 5}, {6, 8, 5}, {7, 8, 7}};
        for (int[] row : due) {
            Due.is("JOINED " + row[0] + " and " + row[1], joined(ways[row[0]], ways[row[1]]), row[2]);
            Due.is("JOINED " + row[1] + " and " + row[0], joined(ways[row[1]], ways[row[0]]), row[2]);
        }
        Due.is("a COUNT and a COUNT", joined(new int[][] {{2}}, new int[][] {{2}}), 2);
        Due.is("a COUNT and two INTS", joined(new int[][] {{2}}, new int[][] {{1}, {1}}), 0);
        ClassFrames x = new ClassFrames();
        x.parameter(1);
        Due.code(x, Due.op(8, 0), Due.op(25, 5), Due.op(2), Due.op(9, 1), Due.op(24, 9), Due.op(1), Due.op(9, 1),
                Due.op(6), Due.op(9, 2), Due.op(23));
        Due.is("LOCALS: make()", x.make(), 2);
        locals("LOCALS joined", x, 9, "1");
        locals("LOCALS ahead", x, 7, "11");
        faulty("STACKS of unlike size", 5, 2, Due.op(1), Due.op(25, 3), Due.op(1), Due.op(23));
    }

    private static void handlers() {
        ClassFrames x = new ClassFrames();
        x.parameter(6);
        Due.code(x, Due.op(1, 2), Due.op(9, 1), Due.op(6), Due.op(9, 0), Due.op(23), Due.op(9, 2), Due.op(23));
        x.handler(0, 4, 5, 8);
        Due.is("make()", x.make(), 1);
        locals("of all PLACES of the HANDLER", x, 5, "60");
        stack("a MARK alone", x, 5, "8");
        x.handler(1, 2, 5, 7);
        Due.is("make()", x.make(), 1);
        stack("JOINED with a FAULT", x, 5, "7");
        locals("stored", x, 6, "607");
        x.handler(4, 5, 5, 7);
        Due.is("make()", x.make(), 1);
        locals("behind the stores", x, 5, "50");
        x.handler(4, 4, 6, 7);
        Due.is("one of no PLACE at all has a FRAME, too", x.make(), 2);
        Due.is("its PLACE", x.frame(1, 0), 6);
        x.handler(4, 5, 6, 7);
        faulty("two STACKS of unlike size", x, 5, 5);
        ClassFrames y = new ClassFrames();
        Due.code(y, Due.op(1), Due.op(10), Due.op(23), Due.op(9, 0), Due.op(24, 3));
        y.handler(0, 1, 3, 7);
        faulty("a way back to a HANDLER's PLACE", y, 5, 4);
    }

    private static void rounds() {
        ClassFrames x = new ClassFrames();
        Due.code(x, Due.op(23));
        x.make();
        Due.is("one that changes nothing", x.count(5), 1);
        x.clear();
        Due.code(x, Due.op(0), Due.op(0), Due.op(23));
        x.make();
        Due.is("along the code", x.count(5), 2);
        x.clear();
        Due.code(x, Due.op(24, 2), Due.op(23), Due.op(24, 1));
        x.make();
        Due.is("a way back", x.count(5), 2);
        x.clear();
        Due.code(x, Due.op(24, 4), Due.op(23), Due.op(24, 1), Due.op(23), Due.op(24, 2));
        x.make();
        Due.is("two ways back", x.count(5), 3);
        x.clear();
        Due.code(x, Due.op(3), Due.op(9, 0), Due.op(8, 0), Due.op(9, 1), Due.op(4), Due.op(9, 0), Due.op(24, 2));
        x.make();
        Due.is("a kind lifted on the way back", x.count(5), 3);
        locals("lifted", x, 2, "5");
        locals("and what is stored of it", x, 4, "55");
        x.clear();
        Due.code(x, Due.op(0), Due.op(10), Due.op(23));
        x.make();
        Due.is("ended by a FAULT OF CODE", x.count(5), 1);
        x.clear();
        x.make();
        Due.is("no CODE", x.count(5), 0);
        secondRound(x);
    }

    private static void secondRound(ClassFrames x) {
        x.clear();
        Due.code(x, Due.op(1), Due.op(9, 0), Due.op(8, 0), Due.op(10), Due.op(3), Due.op(9, 0), Due.op(24, 2));
        faulty("an INT that a way back takes", x, 1, 2);
        Due.is("in the second ROUND", x.count(5), 2);
    }

    private static void frames() {
        ClassFrames x = new ClassFrames();
        x.parameter(1);
        x.parameter(5);
        Due.code(x, Due.op(8, 0), Due.op(27, 4, 6), Due.op(0), Due.op(23), Due.op(0), Due.op(24, 8), Due.op(0), Due.op(23),
                Due.op(24, 10), Due.op(24, 9), Due.op(2), Due.op(9, 3), Due.op(23));
        Due.is("make()", x.make(), 4);
        int[] places = {4, 6, 8, 10};
        for (int f = 0; f < 4; f++) {
            Due.is("PLACE of FRAME " + f, x.frame(f, 0), places[f]);
            Due.is("LOCALS of FRAME " + f, x.frame(f, 1), 2);
            Due.is("STACK of FRAME " + f, x.frame(f, 2), 0);
            Due.is("kind 0 of FRAME " + f, x.frame(f, 3), 1);
            Due.is("kind 1 of FRAME " + f, x.frame(f, 4), 5);
            Due.is("no kind 2 of FRAME " + f, x.frame(f, 5), ClassFrames.NONE);
        }
        Due.is("DEAD ones", x.count(4), 1);
        Due.is("size of a DEAD one", x.size(9), ClassFrames.NONE);
        Due.is("kind of a DEAD one", x.kind(9, 0), ClassFrames.NONE);
        x.clear();
        Due.code(x, Due.op(1), Due.op(10), Due.op(24, 0));
        Due.is("PLACE 0, gone to", x.make(), 1);
        Due.is("its PLACE", x.frame(0, 0), 0);
        Due.is("its LOCALS", x.frame(0, 1), 0);
        gapFrame(x);
    }

    /** A hole in LOCALS stays, what is behind the last one is cut; the STACK comes behind LOCALS. */
    private static void gapFrame(ClassFrames x) {
        x.clear();
        Due.code(x, Due.op(2), Due.op(9, 2), Due.op(2), Due.op(1), Due.op(24, 5), Due.op(23));
        Due.is("make()", x.make(), 1);
        int[] due = {5, 4, 3, 0, 0, 2, 3, 2, 3, 1, ClassFrames.NONE};
        for (int what = 0; what < due.length; what++) {
            Due.is("frame(0, " + what + ")", x.frame(0, what), due[what]);
        }
    }

    private static void asked() {
        ClassFrames x = new ClassFrames();
        Due.code(x, Due.op(1), Due.op(24, 2), Due.op(23));
        Due.is("nothing MADE: kind", x.kind(2, 0), ClassFrames.STATE);
        Due.is("nothing MADE: size", x.size(2), ClassFrames.STATE);
        Due.is("BAD ahead of STATE: kind", x.kind(3, 0), ClassFrames.BAD);
        Due.is("BAD ahead of STATE: size", x.size(-1), ClassFrames.BAD);
        Due.is("BAD ahead of STATE: frame", x.frame(-1, 0), ClassFrames.BAD);
        Due.is("make()", x.make(), 1);
        for (int at : new int[] {Integer.MIN_VALUE, -1, 3, Integer.MAX_VALUE}) {
            Due.is("kind at " + at, x.kind(at, 0), ClassFrames.BAD);
            Due.is("size at " + at, x.size(at), ClassFrames.BAD);
        }
        for (int i : new int[] {Integer.MIN_VALUE, -1, 9, 14, Integer.MAX_VALUE}) {
            Due.is("kind " + i, x.kind(2, i), ClassFrames.NONE);
        }
        Due.is("kind(2, 8)", x.kind(2, 8), 1);
        Due.is("kind(2, 7)", x.kind(2, 7), 0);
        Due.is("size(0)", x.size(0), 0);
        Due.is("frame(-1, 0)", x.frame(-1, 0), ClassFrames.BAD);
        Due.is("frame(0, -1)", x.frame(0, -1), ClassFrames.BAD);
        Due.is("frame(1, 0)", x.frame(1, 0), ClassFrames.NONE);
        Due.is("frame(MAX, MAX)", x.frame(Integer.MAX_VALUE, Integer.MAX_VALUE), ClassFrames.NONE);
        Due.is("frame(0, MAX)", x.frame(0, Integer.MAX_VALUE), ClassFrames.NONE);
        Due.is("frame(0, 3)", x.frame(0, 3), 1);
        Due.is("frame(0, 4)", x.frame(0, 4), ClassFrames.NONE);
        Due.is("make() again", x.make(), 1);
    }
}
