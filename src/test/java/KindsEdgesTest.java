/** The edges of part 1, KINDS and STATES: GOES AS and JOINED of every two kinds, what parts a COUNT, how much there is room for. */
public final class KindsEdgesTest {
    /** What puts each kind into LOCAL 1; a HALF is that of a COUNT in LOCAL 0. */
    private static final String[] INTO_ONE = {"", "1; 9 1", "2; 9 1", "2; 9 0", "3; 9 1", "4; 9 1", "1; 7; 9 1", "5; 9 1", "6; 9 1"};

    public static void main(String[] args) {
        goesAs();
        joined();
        joinedOnTheStack();
        joinedOverTwoPlaces();
        storedOverCounts();
        sixPlaces();
        eightLocals();
        Due.end();
    }

    private static int rows(String code) {
        return code.isEmpty() ? 0 : code.split(";").length;
    }

    /** "One GOES AS another one: as itself; NIL as 5 to 8; 6, 7 as 5; 8 as 7, 5; each as TOP." */
    private static void goesAs() {
        String[] as = {"0", "01", "02", "03", "045678", "05", "065", "075", "0875"};
        for (int one = 0; one <= 8; one++) {
            for (int other = 0; other <= 8; other++) {
                int jump = rows(INTO_ONE[one]) + 2;
                Trial t = new Trial(one + " as " + other, INTO_ONE[one] + "; 1; 9 3; 24 " + (jump + 1) + "; 23").makes(1).fits();
                t.plant(0, 1, other);
                if (one != other && (one == 2 || other == 2)) {
                    t.plant(0, 2, other == 2 ? 3 : 0);
                }
                if (one != other && (one == 3 || other == 3)) {
                    t.plant(0, 0, other == 3 ? 2 : 0);
                }
                if (as[one].indexOf('0' + other) >= 0) {
                    t.fits();
                } else {
                    t.refusedAt(jump);
                }
            }
        }
    }

    /** "JOINED are two: a kind as which both go, the nearest (NIL and one of 5 to 8: that; .. others TOP)." */
    private static void joined() {
        String[] due = {"000000000", "010000000", "002000000", "000300000", "000045678", "000055555", "000065655", "000075577", "000085578"};
        for (int one = 0; one <= 8; one++) {
            for (int other = 0; other <= 8; other++) {
                int second = rows(INTO_ONE[one]) + 3;
                int end = second + rows(INTO_ONE[other]);
                Trial t = new Trial("JOINED " + one + ", " + other, "1; 25 " + second + "; " + INTO_ONE[one] + "; 24 " + end + "; "
                        + INTO_ONE[other] + "; 23");
                t.makes(second == end ? 1 : 2);
                int both = due[one].charAt(other) - '0';
                t.locals(end, (both == 3 ? "2" : "0") + both + (both == 2 ? "3" : "0"));
                t.fits();
            }
        }
    }

    private static void joinedOnTheStack() {
        String[] onto = {"", "1", "", "", "3", "4", "1; 7", "5", "6"};
        String[] due = {"", "010000000", "", "", "000045678", "000055555", "000065655", "000075577", "000085578"};
        for (int one : new int[] {1, 4, 5, 6, 7, 8}) {
            for (int other : new int[] {1, 4, 5, 6, 7, 8}) {
                int second = rows(onto[one]) + 3;
                int end = second + rows(onto[other]);
                new Trial("on the STACK " + one + ", " + other, "1; 25 " + second + "; " + onto[one] + "; 24 " + end + "; " + onto[other]
                        + "; 23").makes(2).stack(end, due[one].substring(other, other + 1)).fits();
            }
        }
    }

    /** "A COUNT that has no HALF behind it, a HALF that has no COUNT ahead of it, become TOP (in LOCALS, and on the STACK)." */
    private static void joinedOverTwoPlaces() {
        String[][] rows = {{"2", "2", "23"}, {"2; 1", "1; 2", "000"}, {"2; 1; 1", "2; 2", "2300"}, {"1; 1; 2", "2; 2", "0023"},
            {"1; 2; 1", "2; 2", "0000"}, {"2; 3", "2; 4", "235"}, {"2", "3; 3", "00"}, {"2; 2; 2", "1; 2; 2; 1", "000000"}};
        for (String[] row : rows) {
            int second = rows(row[0]) + 3;
            int end = second + rows(row[1]);
            new Trial(row[0] + " and " + row[1], "1; 25 " + second + "; " + row[0] + "; 24 " + end + "; " + row[1] + "; 23").makes(2)
                    .stack(end, row[2]).fits();
        }
        new Trial("LOCALS shifted by one", "1; 25 7; 2; 9 0; 1; 9 2; 24 11; 1; 9 0; 2; 9 1; 23").makes(2).locals(11, "000").fits();
        new Trial("LOCALS, one of two the same", "1; 25 7; 2; 9 4; 2; 9 6; 24 13; 2; 9 4; 1; 9 6; 1; 9 7; 23").makes(2)
                .locals(13, "00002300").fits();
    }

    /** A STORE at every LOCAL over COUNTS at every one, of one place and of two. */
    private static void storedOverCounts() {
        for (int first = 0; first <= 6; first++) {
            for (int second = 0; second <= 6; second++) {
                for (int a = 0; a <= 7; a++) {
                    storedOver(first, second, a, 1);
                    if (a <= 6) {
                        storedOver(first, second, a, 2);
                    }
                }
            }
        }
    }

    private static void storedOver(int first, int second, int a, int kind) {
        int[] locals = new int[8];
        put(locals, first, 2);
        put(locals, second, 2);
        put(locals, a, kind);
        StringBuilder due = new StringBuilder();
        for (int one : locals) {
            due.append(one);
        }
        String name = "COUNTS at " + first + ", " + second + ", then " + kind + " at " + a;
        Trial t = new Trial(name, "2; 9 " + first + "; 2; 9 " + second + "; " + kind + " 5; 9 " + a + "; 23").makes(0);
        t.locals(6, due.toString());
        new Trial(name + ", run", "2; 9 " + first + "; 2; 9 " + second + "; " + kind + " 5; 9 " + a + "; 8 " + a + "; 23").returns(kind, 5);
        for (int i = 0; i < 8; i++) {
            Trial run = new Trial(name + ", run, LOAD " + i,
                    "2; 9 " + first + "; 2; 9 " + second + "; " + kind + " 5; 9 " + a + "; 8 " + i + "; 23");
            if (locals[i] == 0 || locals[i] == 3) {
                run.endsAt(1, 6).faulty(1, 6);
            } else {
                run.returns(locals[i], i == a ? 5 : 0).makes(0);
            }
        }
    }

    /** Puts it there, then strikes every COUNT and HALF that has lost the other. */
    private static void put(int[] locals, int a, int kind) {
        locals[a] = kind;
        if (kind == 2) {
            locals[a + 1] = 3;
        }
        for (int i = 0; i < 8; i++) {
            boolean hasHalf = i < 7 && locals[i + 1] == 3;
            boolean hasCount = i > 0 && locals[i - 1] == 2;
            if (locals[i] == 2 && !hasHalf || locals[i] == 3 && !hasCount) {
                locals[i] = 0;
            }
        }
    }

    /** "a STACK of at most 6 places", "3 DEEP (the 7th place)": every op that brings more than it takes, at every size. */
    private static void sixPlaces() {
        String[] ops = {"1", "2", "3", "4", "5", "6", "8 0", "8 1", "8 3", "16", "7", "21 5", "15", "14"};
        int[] parameters = {1, 2, 6};
        String[] takes = {"", "", "", "", "", "", "", "", "", "1", "1", "3", "2", "2; 2"};
        int[] taken = {0, 0, 0, 0, 0, 0, 0, 0, 0, 1, 1, 1, 2, 4};
        int[] brought = {1, 2, 1, 1, 1, 1, 1, 2, 1, 2, 1, 1, 1, 2};
        for (int i = 0; i < ops.length; i++) {
            for (int below = 0; below + taken[i] <= 6; below++) {
                int place = below + rows(takes[i]);
                int after = below + brought[i];
                Trial t = new Trial(ops[i] + " above " + below, Trial.times(below, "1") + takes[i] + "; " + ops[i] + "; 23", parameters);
                if (after > 6) {
                    t.faulty(3, place).endsAt(3, place);
                } else {
                    t.makes(0);
                    Due.is(ops[i] + " above " + below + ": size()", t.x.size(place + 1), after);
                    Due.is(ops[i] + " above " + below + ": run(300)", t.x.run(300), 0);
                }
            }
        }
    }

    /** "LOCALS 0 .. 7", "4 LOCAL (none such, HALF beyond 7 too)": every LOCAL and those beside them. */
    private static void eightLocals() {
        for (int a : new int[] {Integer.MIN_VALUE, -2, -1, 0, 1, 5, 6, 7, 8, 9, 14, Integer.MAX_VALUE}) {
            boolean is = a >= 0 && a <= 7;
            Trial store = new Trial("STORE of an INT at " + a, "1 4; 9 " + a + "; 8 " + a + "; 23");
            Trial wide = new Trial("STORE of a COUNT at " + a, "2 4; 9 " + a + "; 8 " + a + "; 23");
            Trial increase = new Trial("INC of LOCAL " + a, "28 " + a + " 3; 8 " + a + "; 23", 1, 1, 1, 1, 1, 1, 1, 1);
            Trial load = new Trial("LOAD of LOCAL " + a, "8 " + a + "; 23", 1, 1, 1, 1, 1, 1, 1, 1);
            if (is) {
                store.makes(0).returns(1, 4);
                increase.makes(0).returns(1, 3);
                load.makes(0).returns(1, 0);
            } else {
                store.faulty(4, 1).endsAt(4, 1);
                increase.faulty(4, 0).endsAt(4, 0);
                load.faulty(4, 0).endsAt(4, 0);
            }
            if (a >= 0 && a <= 6) {
                wide.makes(0).returns(2, 4);
            } else {
                wide.faulty(4, 1).endsAt(4, 1);
            }
        }
    }
}
