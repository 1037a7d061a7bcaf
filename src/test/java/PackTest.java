/** Promises 12 and 13: packed, out. */
public final class PackTest {
    public static void main(String[] args) {
        outside();
        distances();
        alike();
        fewer();
        more();
        whole();
        entries();
        planted();
        plantedApart();
        longest();
        Due.end();
    }

    private static void outside() {
        ClassFrames x = new ClassFrames();
        Due.code(x, Due.op(0), Due.op(23));
        Due.is("nothing MADE", x.packed(), ClassFrames.STATE);
        x.make();
        Due.bytes("no FRAMES", x);
        x.clear();
        Due.code(x, Due.op(24, 1), Due.op(23));
        x.make();
        Due.is("nothing PACKED", Due.byteOrThrown(x, 0), -100);
        Due.bytes("one FRAME", x, 1);
        for (int i : new int[] {Integer.MIN_VALUE, -1, 1, Integer.MAX_VALUE}) {
            Due.is("out(" + i + ")", Due.byteOrThrown(x, i), -100);
        }
        x.clear();
        Due.is("cleared: packed()", x.packed(), ClassFrames.STATE);
        Due.is("PACKED latest stays", Due.byteOrThrown(x, 0), 1);
    }

    private static void distances() {
        ClassFrames x = new ClassFrames();
        Due.code(x, Due.op(0), Due.op(1), Due.op(27, 0, 5), Due.op(24, 4), Due.op(24, 5), Due.op(23));
        x.make();
        Due.bytes("PLACES 0, 4, 5", x, 0, 3, 0);
        x.clear();
        Due.code(x, Due.op(24, 59));
        while (x.count(0) < 60) {
            x.operation(23, 0, 0);
        }
        x.make();
        Due.bytes("PLACE 59", x, 59);
        x.clear();
        Due.code(x, Due.op(3), Due.op(24, 59));
        while (x.count(0) < 60) {
            x.operation(23, 0, 0);
        }
        x.make();
        Due.bytes("PLACE 59, an entry", x, 64 + 59, 5);
    }

    private static void alike() {
        ClassFrames x = new ClassFrames();
        x.parameter(2);
        x.parameter(6);
        Due.code(x, Due.op(2), Due.op(24, 2), Due.op(15), Due.op(24, 4), Due.op(10), Due.op(24, 6), Due.op(23));
        x.make();
        Due.bytes("like LOCALS", x, 66, 4, 65, 1, 1);
        x.clear();
        Due.code(x, Due.op(1), Due.op(1), Due.op(24, 3), Due.op(23));
        x.make();
        Due.bytes("like LOCALS, two entries", x, 255, 0, 3, 0, 0, 0, 2, 1, 1);
    }

    /** A STORE of a HALF's or NIL's place cannot make TOP, ways that come together can. */
    private static ClassFrames losing(int... locals) {
        ClassFrames x = new ClassFrames();
        for (int i = 0; i < 5; i++) {
            x.parameter(1);
        }
        Due.code(x, Due.op(1), Due.op(25, 2 + 2 * locals.length));
        for (int local : locals) {
            Due.code(x, Due.op(3), Due.op(9, local));
        }
        Due.code(x, Due.op(23));
        x.make();
        return x;
    }

    private static void fewer() {
        Due.bytes("one fewer", losing(4), 250, 0, 4);
        Due.bytes("two fewer", losing(4, 3), 249, 0, 6);
        Due.bytes("three fewer", losing(4, 3, 2), 248, 0, 8);
        Due.bytes("four fewer", losing(4, 3, 2, 1), 255, 0, 10, 0, 1, 1, 0, 0);
        Due.bytes("not the last", losing(3), 255, 0, 4, 0, 5, 1, 1, 1, 0, 1, 0, 0);
        ClassFrames x = new ClassFrames();
        x.parameter(1);
        x.parameter(2);
        Due.code(x, Due.op(1), Due.op(25, 4), Due.op(1), Due.op(9, 1), Due.op(23));
        x.make();
        Due.bytes("a COUNT fewer is one entry", x, 250, 0, 4);
        x.clear();
        x.parameter(1);
        x.parameter(1);
        Due.code(x, Due.op(1), Due.op(1), Due.op(25, 5), Due.op(3), Due.op(9, 1), Due.op(23));
        x.make();
        Due.bytes("one fewer, but a STACK", x, 255, 0, 5, 0, 1, 1, 0, 1, 1);
    }

    private static void more() {
        ClassFrames x = new ClassFrames();
        x.parameter(1);
        Due.code(x, Due.op(1), Due.op(9, 1), Due.op(24, 3), Due.op(2), Due.op(9, 2), Due.op(3), Due.op(9, 4), Due.op(24, 8),
                Due.op(6), Due.op(9, 5), Due.op(4), Due.op(9, 6), Due.op(5), Due.op(9, 7), Due.op(24, 15), Due.op(23));
        x.make();
        Due.bytes("1, 2 and 3 more", x, 252, 0, 3, 1, 253, 0, 4, 4, 5, 254, 0, 6, 7, 0, 8, 7, 0, 5, 7, 0, 7);
        x.clear();
        Due.code(x, Due.op(1), Due.op(9, 3), Due.op(24, 3), Due.op(23));
        x.make();
        Due.bytes("four more", x, 255, 0, 3, 0, 4, 0, 0, 0, 1, 0, 0);
        x.clear();
        Due.code(x, Due.op(1), Due.op(9, 2), Due.op(24, 3), Due.op(23));
        x.make();
        Due.bytes("TOP is an entry", x, 254, 0, 3, 0, 0, 1);
        x.clear();
        x.parameter(1);
        Due.code(x, Due.op(1), Due.op(9, 1), Due.op(1), Due.op(24, 4), Due.op(23));
        x.make();
        Due.bytes("one more, but a STACK", x, 255, 0, 4, 0, 2, 1, 1, 0, 1, 1);
    }

    private static void whole() {
        ClassFrames x = new ClassFrames();
        x.parameter(1);
        Due.code(x, Due.op(2), Due.op(9, 0), Due.op(2), Due.op(3), Due.op(24, 5), Due.op(11), Due.op(23));
        Due.is("11 of half a COUNT", x.make(), -15);
        x.clear();
        x.parameter(1);
        Due.code(x, Due.op(2), Due.op(9, 0), Due.op(2), Due.op(3), Due.op(24, 5), Due.op(10), Due.op(24, 7), Due.op(23));
        x.make();
        Due.bytes("other LOCALS", x, 255, 0, 5, 0, 1, 4, 0, 2, 4, 5, 65, 4);
    }

    private static void entries() {
        int[][] due = {{0}, {1}, {4}, {7, 0, 3}, {5}, {7, 0, 5}, {7, 0, 6}, {7, 0, 7}, {7, 0, 8}};
        for (int kind = 0; kind <= 8; kind++) {
            ClassFrames x = new ClassFrames();
            Due.code(x, Due.op(3), Due.op(24, 2), Due.op(23));
            x.make();
            x.plant(0, 0, kind);
            int[] want = new int[1 + due[kind].length];
            want[0] = 66;
            System.arraycopy(due[kind], 0, want, 1, due[kind].length);
            Due.bytes("an entry of kind " + kind, x, want);
        }
    }

    /** A COUNT in the last LOCAL and a HALF lowest on the STACK are no pair. */
    private static void plantedApart() {
        ClassFrames x = new ClassFrames();
        for (int i = 0; i < 8; i++) {
            x.parameter(1);
        }
        Due.code(x, Due.op(3), Due.op(24, 2), Due.op(23));
        x.make();
        x.plant(0, 7, 2);
        x.plant(0, 8, 3);
        Due.bytes("LOCALS and STACK apart", x, 255, 0, 2, 0, 8, 1, 1, 1, 1, 1, 1, 1, 4, 0, 1, 7, 0, 3);
    }

    private static void planted() {
        ClassFrames x = new ClassFrames();
        x.parameter(1);
        x.parameter(1);
        Due.code(x, Due.op(24, 1), Due.op(24, 2), Due.op(23));
        x.make();
        Due.bytes("as MADE", x, 1, 0);
        x.plant(0, 1, 5);
        Due.bytes("another kind, then not like it", x, 255, 0, 1, 0, 2, 1, 7, 0, 5, 0, 0, 255, 0, 0, 0, 2, 1, 1, 0, 0);
        x.plant(1, 1, 5);
        Due.bytes("like it again", x, 255, 0, 1, 0, 2, 1, 7, 0, 5, 0, 0, 0);
        x.plant(0, 1, 0);
        x.plant(1, 1, 0);
        Due.bytes("TOP stays an entry", x, 255, 0, 1, 0, 2, 1, 0, 0, 0, 0);
        x.plant(0, 0, 2);
        x.plant(0, 1, 3);
        x.plant(1, 0, 2);
        x.plant(1, 1, 2);
        Due.bytes("a COUNT, then two without a HALF", x, 255, 0, 1, 0, 1, 4, 0, 0, 252, 0, 0, 4);
        x.plant(1, 0, 3);
        x.plant(1, 1, 3);
        Due.bytes("HALVES are entries", x, 255, 0, 1, 0, 1, 4, 0, 0, 255, 0, 0, 0, 2, 7, 0, 3, 7, 0, 3, 0, 0);
        Due.is("PACKED latest", Due.byteOrThrown(x, 11), 0);
        x.make();
        Due.bytes("made anew", x, 1, 0);
    }

    /** Sixty PLACES, as many FRAMES as can be with all that they can hold. */
    private static void longest() {
        ClassFrames x = new ClassFrames();
        for (int i = 0; i < 8; i++) {
            x.parameter(6);
        }
        for (int i = 0; i < 6; i++) {
            x.operation(8, i, 0);
        }
        while (x.count(0) < 59) {
            x.operation(24, x.count(0) + 1, 0);
        }
        x.operation(23, 0, 0);
        Due.is("make()", x.make(), 53);
        Due.is("packed()", x.packed(), 53 * (5 + 24 + 2 + 18));
        Due.is("the last byte", Due.byteOrThrown(x, 53 * 49 - 1), 6);
        Due.is("the one behind it", Due.byteOrThrown(x, 53 * 49), -100);
    }
}
