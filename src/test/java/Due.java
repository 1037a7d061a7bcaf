/** What the project's own tests share: answers are compared with those that are due, wrong ones printed and counted. */
final class Due {
    private static int wrong = 0;
    private static int seen = 0;

    private Due() {
    }

    static void is(String what, long got, long want) {
        seen++;
        if (got != want) {
            wrong++;
            System.out.println(what + " answered " + got + ", due is " + want);
        }
    }

    static void holds(String what, boolean so) {
        is(what, so ? 1 : 0, 1);
    }

    /** out(i), or -100 if it throws what the document names. */
    static int byteOrThrown(ClassFrames x, int i) {
        try {
            return x.out(i);
        } catch (ArrayIndexOutOfBoundsException e) {
            return -100;
        }
    }

    /** The PLACES of a code, each row an op with a and b (0, where they are left out). */
    static void code(ClassFrames x, int[]... rows) {
        for (int[] row : rows) {
            int before = x.count(0);
            int place = x.operation(row[0], row.length > 1 ? row[1] : 0, row.length > 2 ? row[2] : 0);
            is("operation(" + row[0] + ", ..)", place, before);
        }
    }

    static int[] op(int... row) {
        return row;
    }

    /** packed() and each byte of it, and none behind them. */
    static void bytes(String what, ClassFrames x, int... want) {
        is(what + ": packed()", x.packed(), want.length);
        for (int i = 0; i < want.length; i++) {
            is(what + ": out(" + i + ")", byteOrThrown(x, i), want[i]);
        }
        is(what + ": out(" + want.length + ")", byteOrThrown(x, want.length), -100);
    }

    static void end() {
        System.out.println(seen + " answers, " + wrong + " not as due");
        if (wrong != 0) {
            System.exit(1);
        }
    }
}
