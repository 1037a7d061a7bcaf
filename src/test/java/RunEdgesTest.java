/** The edges of part 4, TO RUN: ARGUMENTS, FAULTS of the machine, STEPS, what is told; promises 14 to 16. */
public final class RunEdgesTest {
    private static final int LEAST = Integer.MIN_VALUE, MOST = Integer.MAX_VALUE;

    public static void main(String[] args) {
        arguments();
        argumentsOfKinds();
        argumentsAtEnds();
        newOnes();
        whichRow();
        manyRows();
        rowsByNumber();
        cells();
        ofNil();
        refusalsTaken();
        stepsAtMost();
        stepsBeforeTheEnd();
        toldOfEach();
        toldOfTopmost();
        thousand();
        thousandInTheMidst();
        eachRunAnew();
        kindsOfThisRun();
        noCode();
        Due.end();
    }

    /** "The ARGUMENT of LOCAL i (0 to 7): what it was. BAD (as an answer it may also be one)." */
    private static void arguments() {
        ClassFrames x = new ClassFrames();
        for (int i = 0; i < 8; i++) {
            Due.is("argument(" + i + ") of a new object", x.argument(i, 100 + i), 0);
        }
        for (int i : new int[] {LEAST, -8, -1, 8, 9, 16, MOST}) {
            Due.is("argument(" + i + ", 5)", x.argument(i, 5), ClassFrames.BAD);
        }
        for (int i = 0; i < 8; i++) {
            Due.is("BAD changed nothing, " + i, x.argument(i, -2), 100 + i);
            Due.is("-2 is what it was, " + i, x.argument(i, Long.MIN_VALUE), -2);
            Due.is("the least, " + i, x.argument(i, Long.MAX_VALUE), Long.MIN_VALUE);
            Due.is("the most, " + i, x.argument(i, 1L << 32), Long.MAX_VALUE);
            Due.is("33 bits, " + i, x.argument(i, 0), 1L << 32);
        }
    }

    /** "an INT (the lowest 32 bits), a COUNT, of 5 to 8 NIL, if it is below 0, else a new one (a ROW of its lowest 3 bits cells ..)" */
    private static void argumentsOfKinds() {
        long[] all = {0, 1, 7, 8, 9, 15, 16, -1, -8, Long.MAX_VALUE, Long.MIN_VALUE, 1L << 31, (1L << 31) - 1, 1L << 32, (1L << 32) + 3, -(1L << 32)};
        for (long v : all) {
            new Trial("an INT of " + v, "8 0; 23", 1).argument(0, v).returns(1, (int) v);
            new Trial("a COUNT of " + v, "8 0; 23", 2).argument(0, v).returns(2, v);
            for (int kind = 5; kind <= 8; kind++) {
                Trial t = new Trial(kind + " of " + v, "8 0; 23", kind).argument(0, v);
                if (v < 0) {
                    t.returns(4, 0);
                } else {
                    t.returns(kind, kind == 6 ? v & 7 : 0);
                }
            }
        }
    }

    /** The last LOCALS, and the second place of a COUNT, whose ARGUMENT is nothing. */
    private static void argumentsAtEnds() {
        new Trial("LOCAL 7", "8 7; 23", 2, 2, 2, 1, 6).argument(7, 5).argument(6, 4).returns(6, 5);
        new Trial("a COUNT in 6 and 7", "8 6; 23", 2, 2, 2, 2).argument(6, 5).argument(7, 4).returns(2, 5);
        new Trial("behind PARAMETERS", "8 1; 23", 1).argument(1, 5).faulty(1, 0).endsAt(1, 0);
        new Trial("a HALF's", "8 1; 23", 2).argument(1, 5).faulty(1, 0).endsAt(1, 0);
        Trial t = new Trial("the ARGUMENT stays", "28 0 1; 8 0; 23", 1).argument(0, 5).returns(1, 6).returns(1, 6);
        Due.is("the ARGUMENT stays", t.x.argument(0, 0), 5);
        t.x.clear();
        t.x.parameter(2);
        t.more("8 0; 23").argument(0, -5).returns(2, -5);
        Due.is("behind clear()", t.x.clear(), 2);
        Due.is("the ARGUMENT stays behind clear()", t.x.argument(0, 0), -5);
    }

    /** "a new one": two ROWS of ARGUMENTS are two, one LOADED twice is one. */
    private static void newOnes() {
        new Trial("two ROWS", "8 0; 1 0; 1 9; 18; 8 1; 1 0; 17; 23", 6, 6).argument(0, 1).argument(1, 1).returns(1, 0);
        new Trial("one ROW", "8 0; 9 1; 8 0; 1 0; 1 9; 18; 8 1; 1 0; 17; 23", 6, 6).argument(0, 1).argument(1, 1).returns(1, 9);
        new Trial("cells are 0 in the next run", "8 0; 1 0; 17; 8 0; 1 0; 1 9; 18; 23", 6).argument(0, 1).returns(1, 0).returns(1, 0);
        for (int i = 0; i < 8; i++) {
            Trial t = new Trial("CODE of FAULTS 0, LOCAL " + i, "8 " + i + "; 23", 6, 7, 8, 5, 7, 6, 8, 7);
            for (int j = 0; j < 8; j++) {
                t.argument(j, 3);
            }
            int kind = "67857687".charAt(i) - '0';
            t.returns(kind, kind == 6 ? 3 : 0);
        }
        new Trial("eight ROWS of seven", "8 7; 1 6; 1 8; 18; 8 6; 1 6; 17; 8 7; 1 6; 17; 12; 23", 6, 6, 6, 6, 6, 6, 6, 6).argument(6, 7)
                .argument(7, 7).returns(1, 8);
    }

    /** Each ROW has cells of its own number, one of none at all, too. */
    private static void whichRow() {
        for (int first = 0; first <= 7; first++) {
            for (int second = 0; second <= 7; second++) {
                new Trial("ARGUMENTS " + first + ", " + second, "8 1; 19; 23", 6, 6).argument(0, first).argument(1, second).returns(1, second);
                new Trial("above another one " + first + ", " + second, "8 0; 8 1; 19; 23", 6, 6).argument(0, first).argument(1, second)
                        .returns(1, second);
                new Trial("told of " + first + ", " + second, "8 0; 8 1; 23", 6, 6).argument(0, first).argument(1, second).returns(6, second);
                new Trial("new ones " + first + ", " + second, "1 " + first + "; 7; 1 " + second + "; 7; 19; 23").returns(1, second);
                new Trial("the one below " + first + ", " + second, "1 " + first + "; 7; 1 " + second + "; 7; 10; 19; 23").returns(1, first);
                Trial cell = new Trial("a cell of the second " + first + ", " + second, "8 0; 8 1; 1 " + (first - 1) + "; 17; 23", 6, 6);
                cell.argument(0, first).argument(1, second);
                if (first >= 1 && first <= second) {
                    cell.returns(1, 0);
                } else {
                    cell.throwsAt(3, 2);
                }
            }
        }
    }

    /** 25 ROWS in each of five times round, then one more: all in less than 300 STEPS. */
    private static void manyRows() {
        String round = "8 0; 25 56; 28 0 -1; 1 20; " + Trial.times(25, "7; 19") + "10; 24 0; ";
        new Trial("126 ROWS", round + "1 20; 7; 23", 1).argument(0, 5).returns(6, 20).told(3, 285);
        Trial t = new Trial("eight more by ARGUMENTS", "1 20; " + Trial.times(28, "7; 19") + "24 1; 23", 6, 6, 6, 6, 6, 6, 6, 6);
        for (int i = 0; i < 3; i++) {
            Due.is("as many as there can be", t.x.run(300), 2);
            t.told(3, 300);
        }
    }

    /** "3 a ROW of n below 0", "6 a ROW of more than 20", "a new ROW of n cells 0". */
    private static void rowsByNumber() {
        for (int n : new int[] {LEAST, -21, -2, -1}) {
            new Trial("a ROW of " + n, "1 " + n + "; 7; 23").makes(0).throwsAt(1, 3);
        }
        for (int n : new int[] {21, 22, 255, MOST}) {
            new Trial("a ROW of " + n, "1 " + n + "; 7; 23").makes(0).throwsAt(1, 6);
        }
        for (int n = 0; n <= 20; n++) {
            new Trial("a ROW of " + n, "1 " + n + "; 7; 23").returns(6, n);
            new Trial("its cells, " + n, "1 " + n + "; 7; 19; 23").returns(1, n);
            for (int i = 0; i < n; i++) {
                new Trial("cell " + i + " of " + n, "1 " + n + "; 7; 1 " + i + "; 17; 23").returns(1, 0);
            }
        }
    }

    /** "2 a cell that there is not": those at the ends are, those beside them are not, for 17 and 18. */
    private static void cells() {
        for (int n : new int[] {0, 1, 7, 20}) {
            for (int i : new int[] {LEAST, -1, 0, n - 1, n, n + 1, 20, 21, MOST}) {
                Trial read = new Trial("cell " + i + " of " + n, "1 " + n + "; 7; 1 " + i + "; 17; 23").makes(0);
                Trial change = new Trial("cell " + i + " of " + n + " becomes", "1 " + n + "; 7; 9 0; 8 0; 1 " + i + "; 1 -5; 18; 8 0; 1 " + i
                        + "; 17; 23").makes(0);
                if (i >= 0 && i < n) {
                    read.returns(1, 0);
                    change.returns(1, -5);
                } else {
                    read.throwsAt(3, 2);
                    change.throwsAt(6, 2);
                }
            }
        }
        new Trial("one cell alone", "1 3; 7; 9 0; 8 0; 1 1; 1 7; 18; 8 0; 1 0; 17; 8 0; 1 2; 17; 12; 23").returns(1, 0);
        new Trial("the least and the most", "1 1; 7; 9 0; 8 0; 1 0; 1 " + LEAST + "; 18; 8 0; 1 0; 17; 23").returns(1, LEAST);
    }

    /** "1 NIL (17 to 20, 22 of NIL)": ahead of any cell; 21 and 26 take NIL. */
    private static void ofNil() {
        new Trial("17 of NIL, no cell", "3; 1 -1; 17; 23").throwsAt(2, 1);
        new Trial("18 of NIL, no cell", "3; 1 99; 1; 18; 23").throwsAt(3, 1);
        new Trial("19 of NIL", "3; 19; 23").throwsAt(1, 1);
        new Trial("20 of NIL", "3; 20; 23").throwsAt(1, 1);
        new Trial("22 of NIL", "3; 22").throwsAt(1, 1);
        for (int a = 5; a <= 8; a++) {
            new Trial("21 of NIL", "3; 21 " + a + "; 23").returns(4, 0);
            new Trial("21 of NIL, then 20", "3; 21 " + a + "; 20; 23").throwsAt(2, 1);
            new Trial("21 of NIL, then 19", "3; 21 " + a + "; 19; 23").throwsAt(2, 1);
        }
        new Trial("NIL by an ARGUMENT", "8 0; 19; 23", 6).argument(0, -1).throwsAt(1, 1);
        new Trial("NIL by an ARGUMENT, 22", "8 0; 22", 8).argument(0, -1).throwsAt(1, 1);
        new Trial("a FAULT by an ARGUMENT, 22", "8 0; 22", 8).argument(0, 5).throwsAt(1, 0);
        new Trial("26 of NIL by an ARGUMENT", "8 0; 26 3; 23; 1; 23", 5).argument(0, -1).returns(1, 0);
    }

    /** "FAULTS of the machine are THROWN as a new FAULT by their CODE": a HANDLER of 7 takes each, one of 8 none. */
    private static void refusalsTaken() {
        String[] codes = {"3; 19", "1 1; 7; 1 1; 17", "1 -1; 7", "4; 21 6", "1; 1; 13", "1 21; 7"};
        for (int code = 1; code <= 6; code++) {
            int last = codes[code - 1].split(";").length - 1;
            String handled = codes[code - 1] + "; 23; 23";
            new Trial("CODE " + code, handled).handler(0, last + 1, last + 2, 7).makes(1).returns(7, code).told(2, last + 2).told(3, last + 2);
            new Trial("CODE " + code + " is no MARK", handled).handler(0, last + 1, last + 2, 8).throwsAt(last, code);
            new Trial("CODE " + code + ", no HANDLER", handled).throwsAt(last, code).told(3, last + 1);
        }
    }

    /** "STEPS at most (0 to 300)", "2: more STEPS would come": one STEP less, just as many, one more. */
    private static void stepsAtMost() {
        Trial t = new Trial("five STEPS", "0; 0; 0; 0; 23");
        for (int steps = 0; steps <= 6; steps++) {
            Due.is("run(" + steps + ")", t.x.run(steps), steps < 5 ? 2 : 0);
            t.told(0, -1).told(1, 0).told(2, Math.min(steps, 4)).told(3, Math.min(steps, 5)).told(4, 0);
            Due.is("run(" + steps + "): fault()", t.x.fault(), 0);
        }
        Trial on = new Trial("no end", "24 0");
        for (int steps : new int[] {0, 1, 2, 299, 300}) {
            Due.is("run(" + steps + ")", on.x.run(steps), 2);
            on.told(2, 0).told(3, steps);
        }
        for (int steps : new int[] {LEAST, -2, -1, 301, 302, MOST}) {
            Due.is("run(" + steps + ")", on.x.run(steps), ClassFrames.BAD);
            on.told(3, 300);
        }
        Trial loop = new Trial("300 STEPS", "8 0; 25 4; 28 0 -1; 24 0; 0; 0; 23", 1).argument(0, 73);
        Due.is("run(299) of 297", loop.x.run(299), 0);
        loop.told(3, 297);
        loop.argument(0, 74);
        Due.is("run(300) of 301", loop.x.run(300), 2);
        loop.told(3, 300).told(2, 6);
        loop.x.clear();
        loop.x.parameter(1);
        loop.more("8 0; 25 4; 28 0 -1; 24 0; 0; 23");
        Due.is("run(300) of 300", loop.x.run(300), 0);
        loop.told(3, 300).told(2, 5);
        Due.is("run(299) of 300", loop.x.run(299), 2);
        loop.told(3, 299).told(2, 5);
    }

    /** A STEP that would end the run, but is not done, ends nothing. */
    private static void stepsBeforeTheEnd() {
        String[] codes = {"0; 23", "5; 22", "0; 10", "0; 24 9", "0; 0", "3; 19"};
        int[] due = {0, 1, -11, -11, -11, 1};
        int[] faults = {0, 0, 2, 7, 6, 0};
        for (int i = 0; i < codes.length; i++) {
            Trial t = new Trial(codes[i], codes[i]);
            Due.is(codes[i] + ": run(1)", t.x.run(1), 2);
            Due.is(codes[i] + ": fault() of run(1)", t.x.fault(), 0);
            t.told(2, 1).told(3, 1).told(4, 0);
            Due.is(codes[i] + ": run(2)", t.x.run(2), due[i]);
            Due.is(codes[i] + ": fault() of run(2)", t.x.fault(), faults[i]);
            t.told(2, 1).told(3, 2);
        }
    }

    /** "0: another what, or there was none." */
    private static void toldOfEach() {
        Trial t = new Trial("told", "6 7; 22");
        for (int what = -2; what <= 6; what++) {
            t.told(what, 0);
        }
        Due.is("run(301) is none", t.x.run(301), ClassFrames.BAD);
        t.told(0, 0).told(2, 0);
        t.throwsAt(1, 7);
        for (int what : new int[] {LEAST, -1, 5, 6, MOST}) {
            t.told(what, 0);
        }
        t.x.make();
        t.x.clear();
        t.told(2, 1).told(3, 2).told(4, 7);
        t.more("23").returns(-1, 0).told(2, 0).told(3, 1);
    }

    /** "the kind of the topmost at its end (2 of a HALF; NONE: the STACK is empty, or it was not 0), 1 that as a number". */
    private static void toldOfTopmost() {
        new Trial("empty", "23").returns(-1, 0);
        new Trial("emptied", "1 5; 10; 23").returns(-1, 0);
        new Trial("an INT", "2 9; 1 5; 23").returns(1, 5);
        new Trial("a COUNT", "1 5; 2 9; 23").returns(2, 9);
        new Trial("a COUNT of more than 32 bits", "8 0; 23", 2).argument(0, -(1L << 40)).returns(2, -(1L << 40));
        new Trial("NIL", "1 5; 3; 23").returns(4, 0);
        new Trial("a THING", "1 5; 4; 23").returns(5, 0);
        new Trial("a ROW", "1 0; 7; 23").returns(6, 0);
        new Trial("a ROW of 20", "1 20; 7; 23").returns(6, 20);
        new Trial("a FAULT", "1 5; 5; 23").returns(7, 0);
        new Trial("a MARK", "6 -1; 23").returns(8, -1);
        new Trial("above a full STACK", Trial.times(5, "1 5") + "6 4; 23").returns(8, 4);
        new Trial("three COUNTS", "2 1; 2 2; 2 3; 23").returns(2, 3);
        new Trial("a COUNT below", "2 1; 2 2; 2 3; 11; 23").returns(2, 2);
        Trial t = new Trial("not RETURNED", "1 5; 1 6; 24 2");
        Due.is("run(300)", t.x.run(300), 2);
        t.told(0, -1).told(1, 0);
    }

    private static Trial thrower() {
        return new Trial("a FAULT in two STEPS", "3; 22").handler(0, 2, 0, 7);
    }

    /** "FULL: 1000 FAULTS of the machine were THROWN ever": at 999 a run begins, at 1000 none does. */
    private static void thousand() {
        Trial t = thrower();
        for (int i = 0; i < 6; i++) {
            Due.is("150 FAULTS", t.x.run(300), 2);
        }
        Due.is("99 FAULTS", t.x.run(199), 2);
        Due.is("999: no STEP", t.x.run(0), 2);
        Due.is("999: a STEP that throws none", t.x.run(1), 2);
        t.x.clear();
        t.more("5; 22").throwsAt(1, 0).throwsAt(1, 0);
        t.x.clear();
        t.more("10").endsAt(2, 0);
        t.x.clear();
        t.more("1; 1; 13; 23").throwsAt(2, 5);
        for (int steps : new int[] {0, 1, 300}) {
            Due.is("1000: run(" + steps + ")", t.x.run(steps), ClassFrames.FULL);
        }
        Due.is("1000: run(-1)", t.x.run(-1), ClassFrames.BAD);
        Due.is("1000: run(301)", t.x.run(301), ClassFrames.BAD);
        t.told(0, -1).told(2, 2).told(3, 3).told(4, 5);
        t.makes(0).fits();
        t.x.clear();
        Due.is("1000: clear() does not help", t.x.run(1), ClassFrames.FULL);
        Due.is("1000: make() goes on", t.x.make(), -9);
        Due.is("1000: fault() of make()", t.x.fault(), 6);
        Due.is("1000: run() changes nothing", t.x.run(5), ClassFrames.FULL);
        Due.is("1000: fault() of make() still", t.x.fault(), 6);
        Due.is("another object", thrower().x.run(300), 2);
    }

    /** A run that has begun goes on beyond the thousandth. */
    private static void thousandInTheMidst() {
        Trial t = thrower();
        for (int i = 0; i < 6; i++) {
            Due.is("150 FAULTS", t.x.run(300), 2);
        }
        Due.is("from 900 to 1050", t.x.run(300), 2);
        t.told(3, 300);
        Due.is("FULL then", t.x.run(300), ClassFrames.FULL);
        Trial untaken = new Trial("no HANDLER takes it", "3; 22");
        for (int i = 0; i < 400; i++) {
            Due.is("one FAULT", untaken.x.run(300), 1);
        }
        Due.is("400 of 1000", untaken.x.run(1), 2);
        Trial target = new Trial("a HANDLER's PLACE that is not", "3; 22").handler(0, 2, 9, 7);
        target.endsAt(7, 1);
    }

    /** A run begins anew: STACK, LOCALS, STEPS, cells; what an earlier one left is gone. */
    private static void eachRunAnew() {
        Trial t = new Trial("anew", "8 0; 28 0 1; 8 0; 12; 23", 1).argument(0, 4);
        Due.is("run(3)", t.x.run(3), 2);
        t.returns(1, 9).told(3, 5).returns(1, 9);
        Trial left = new Trial("LOCALS that no PARAMETER fills", "8 0; 26 3; 0; 1 5; 9 3; 23", 5).argument(0, -1).returns(-1, 0);
        left.more("8 3; 23").returns(-1, 0);
        left.x.clear();
        left.more("8 3; 23").endsAt(1, 0);
        Trial deep = new Trial("a STACK that was left", "1; 1; 1; 1; 1; 1; 23").returns(1, 0).returns(1, 0);
        deep.x.clear();
        deep.more("10; 23").endsAt(2, 0);
        Trial code = new Trial("what no HANDLER took is gone", "6 7; 22").throwsAt(1, 7);
        code.x.clear();
        code.more("23").returns(-1, 0).told(4, 0);
    }

    /** "kinds as they are in this run": what TO MAKE lifts is not lifted here; and code that cannot be MADE can run. */
    private static void kindsOfThisRun() {
        new Trial("JOINED to a THING, but a ROW here", "8 0; 25 5; 1 3; 7; 24 6; 4; 19; 23", 1).faulty(1, 6).argument(0, 1).returns(1, 3).argument(0, 0)
                .endsAt(1, 6);
        new Trial("UNLIKE, but one way here", "8 0; 25 3; 1 6; 23", 1).faulty(5, 2).argument(0, 1).returns(1, 6).argument(0, 0).returns(-1, 0);
        new Trial("a FAULT seen as a THING", "5; 21 5; 20; 23").faulty(1, 2).returns(1, 0);
        new Trial("a MARK seen as a FAULT is one still", "6 3; 21 7; 22; 23").handler(2, 3, 3, 8).makes(1).returns(8, 3);
        new Trial("a TARGET that is not gone to", "1 1; 25 99; 23").faulty(7, 1).returns(-1, 0);
        new Trial("DEAD ones are not run", "24 2; 12; 23").makes(1).returns(-1, 0);
        new Trial("NIL is LOADED", "3; 9 0; 8 0; 23").returns(4, 0);
        new Trial("POP of a HALF", "2; 10; 23").faulty(1, 1).endsAt(1, 1);
        new Trial("POP2 of a HALF and another", "2; 1; 11; 23").faulty(1, 2).endsAt(1, 2);
    }

    /** "(-9 at -1)". */
    private static void noCode() {
        for (int steps : new int[] {0, 1, 300}) {
            Trial t = new Trial("no CODE", "", 1);
            Due.is("run(" + steps + ") of no CODE", t.x.run(steps), -9);
            Due.is("its fault()", t.x.fault(), 6);
            t.told(0, -1).told(1, 0).told(2, -1).told(3, 0).told(4, 0);
        }
        Due.is("BAD ahead of that", new ClassFrames().run(-1), ClassFrames.BAD);
    }
}
