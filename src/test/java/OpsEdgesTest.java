/** The edges of part 1, INSTRUCTIONS: each op above every STACK of at most three entries, in make(), judge() and run(). */
public final class OpsEdgesTest {
    /** What goes from the STACK, topmost first; r: a REFERENCE, s: what 9 takes, p: what 10 takes, q: what 11 takes. */
    private static final String[] TAKES = {"", "", "", "", "", "", "", "1", "", "s", "p", "q", "11", "11", "3232", "32", "1", "16", "116",
        "6", "7", "r", "7", "", "", "1", "r", "1", ""};
    private static final String[] GIVES = {"", "1", "23", "4", "5", "7", "8", "6", "1", "", "", "", "1", "1", "23", "1", "23", "1", "", "1",
        "1", "5", "", "", "", "", "", "", ""};
    private static final String[] ENTRIES = {"1", "23", "4", "5", "6", "7", "8"};
    private static final String[] PUSHES = {"1 2", "2 2", "3", "4", "1 2; 7", "5", "6 2"};

    public static void main(String[] args) {
        above("", "", 3);
        topIsNothing();
        joinedTopIsNothing();
        wraps();
        quotients();
        lowestBits();
        waysTaken();
        casts();
        Due.end();
    }

    /** Every op above this STACK, then with one entry more. */
    private static void above(String stack, String pushes, int more) {
        for (int op = 0; op <= 28; op++) {
            tried(op, stack, pushes);
        }
        for (int i = 0; more > 0 && i < ENTRIES.length; i++) {
            above(stack + ENTRIES[i], pushes + PUSHES[i] + "; ", more - 1);
        }
    }

    private static int places(String code) {
        int many = 0;
        for (String row : code.split(";")) {
            many += row.isBlank() ? 0 : 1;
        }
        return many;
    }

    private static void tried(int op, String stack, String pushes) {
        int place = places(pushes);
        int a = op == 21 ? 5 : op >= 24 && op <= 27 ? place + 1 : 0;
        String name = op + " above " + stack;
        Trial t = new Trial(name, pushes + op + " " + a + " " + a + "; 23; 23", 1);
        String left = after(op, stack);
        if (left.length() == 1 && "WED".contains(left)) {
            int fault = left.equals("W") ? 1 : left.equals("E") ? 2 : 3;
            t.faulty(fault, place).endsAt(fault, place);
            return;
        }
        Due.holds(name + ": make()", t.x.make() >= 0);
        t.fits();
        if (op == 22 || op == 23) {
            t.dead(place + 1);
        } else {
            t.stack(place + 1, left);
        }
        Due.holds(name + ": run(300)", t.x.run(300) == 0 || t.x.told(4) > 0 || op == 22);
        Due.is(name + ": fault() of run()", t.x.fault(), 0);
    }

    /** The STACK then; W, E, D for WRONG, EMPTY, DEEP. */
    private static String after(int op, String stack) {
        String left = stack;
        for (char told : TAKES[op].toCharArray()) {
            char top = left.isEmpty() ? '-' : left.charAt(left.length() - 1);
            if (top == '-' || told == 'q' && left.length() < 2) {
                return "E";
            }
            if (told == 'p' && top == '3' || told == 'q' && left.charAt(left.length() - 2) == '3' || !fits(top, told)) {
                return "W";
            }
            boolean two = told == 'q' || told == 's' && top == '3';
            left = left.substring(0, left.length() - (two ? 2 : 1));
        }
        left += GIVES[op];
        return left.length() > 6 ? "D" : left;
    }

    private static boolean fits(char top, char told) {
        switch (told) {
            case 'r':
            case '7':
            case '6':
                return top == '4' || top == told || told == 'r' && top >= '5' || told == '7' && top == '8';
            case 'p':
            case 'q':
            case 's':
                return true;
            default:
                return top == told;
        }
    }

    /** "0 TOP (nothing that can be used)": a planted TOP in each place that an op takes; only POP and POP2 take it. */
    private static void topIsNothing() {
        String[][] rows = {{"7", "1"}, {"9 1", "1"}, {"12", "1; 1"}, {"13", "1; 1"}, {"14", "2; 2"}, {"15", "2"}, {"16", "1"}, {"17", "3; 1"},
            {"18", "3; 1; 1"}, {"19", "3"}, {"20", "3"}, {"21 5", "3"}, {"22", "3"}, {"25 T", "1"}, {"26 T", "3"}, {"27 T T", "1"}};
        for (String[] row : rows) {
            int jump = places(row[1]) + 1;
            String op = row[0].replace("T", "" + (jump + 2));
            Trial t = new Trial(row[0] + " of TOP", "24 1; " + row[1] + "; 24 " + (jump + 1) + "; " + op + "; 23");
            Due.holds(row[0] + ": make()", t.x.make() >= 2);
            for (int i = 0; i < t.x.frame(1, 2); i++) {
                int before = t.x.frame(1, 3 + i);
                t.fits().plant(1, i, 0).refusedAt(jump + 1).plant(1, i, before);
            }
        }
        new Trial("POP of TOP", "3; 24 2; 10; 23").makes(1).plant(0, 0, 0).fits();
        new Trial("POP2 of TOP", "3; 3; 24 3; 11; 23").makes(1).plant(0, 0, 0).fits().plant(0, 1, 0).fits();
        new Trial("LOAD of TOP", "24 1; 8 0; 23", 1).makes(1).plant(0, 0, 0).refusedAt(1);
        new Trial("INC of TOP", "24 1; 28 0 1; 23", 1).makes(1).plant(0, 0, 0).refusedAt(1);
        new Trial("INC of NIL", "3; 9 0; 28 0 1; 23").faulty(1, 2).endsAt(1, 2);
        new Trial("INC of a COUNT", "28 0 1; 23", 2).faulty(1, 0).endsAt(1, 0);
        new Trial("INC of a HALF", "28 1 1; 23", 2).faulty(1, 0).endsAt(1, 0);
    }

    /** The same in make(): an INT and NIL that are JOINED, below as many INTS as the op takes above it. */
    private static void joinedTopIsNothing() {
        String[] ops = {"7", "9 0", "12", "12", "13", "13", "14", "15", "16", "17", "17", "18", "18", "18", "19", "20", "21 5", "22", "25 0", "26 0",
            "27 0 0"};
        int[] above = {0, 0, 0, 1, 0, 1, 0, 0, 0, 0, 1, 0, 1, 2, 0, 0, 0, 0, 0, 0, 0};
        for (int i = 0; i < ops.length; i++) {
            int place = 5 + above[i];
            Trial t = new Trial(ops[i] + " of a JOINED TOP", "1 1; 25 4; 1 1; 24 5; 3; " + Trial.times(above[i], "1 1") + ops[i] + "; 23");
            t.faulty(1, place);
        }
        new Trial("10 of a JOINED TOP", "1 1; 25 4; 1 1; 24 5; 3; 10; 23").makes(2).stack(6, "").fits();
        new Trial("11 of a JOINED TOP", "1 1; 25 4; 1 1; 24 5; 3; 1; 11; 23").makes(2).stack(7, "").fits();
        new Trial("8 of a JOINED TOP", "1 1; 25 5; 1 1; 9 0; 24 7; 3; 9 0; 8 0; 23").faulty(1, 7).returns(1, 1);
        new Trial("28 of a JOINED TOP", "1 1; 25 5; 1 1; 9 0; 24 7; 3; 9 0; 28 0 1; 23").faulty(1, 7).returns(-1, 0);
    }

    /** Sums and INC with Java's wrap-around. */
    private static void wraps() {
        int most = Integer.MAX_VALUE;
        int least = Integer.MIN_VALUE;
        int[][] ints = {{most, 1}, {least, -1}, {most, most}, {least, least}, {least, most}, {0, 0}, {-1, 1}};
        for (int[] row : ints) {
            new Trial("12 of " + row[0] + ", " + row[1], "1 " + row[0] + "; 1 " + row[1] + "; 12; 23").returns(1, row[0] + row[1]);
            new Trial("28 of " + row[0] + ", " + row[1], "1 " + row[0] + "; 9 7; 28 7 " + row[1] + "; 8 7; 23").returns(1, row[0] + row[1]);
            new Trial("14 of " + row[0] + ", " + row[1], "2 " + row[0] + "; 2 " + row[1] + "; 14; 23").returns(2, (long) row[0] + row[1]);
        }
        long[][] longs = {{Long.MAX_VALUE, 1}, {Long.MIN_VALUE, -1}, {Long.MAX_VALUE, Long.MAX_VALUE}, {Long.MIN_VALUE, Long.MIN_VALUE},
            {Long.MIN_VALUE, Long.MAX_VALUE}, {1L << 32, -1}};
        for (long[] row : longs) {
            new Trial("14 of " + row[0] + ", " + row[1], "8 0; 8 2; 14; 23", 2, 2).argument(0, row[0]).argument(2, row[1])
                    .argument(1, 77).argument(3, 77).returns(2, row[0] + row[1]);
        }
    }

    /** "13 their quotient (cut)", "5 a quotient by 0". */
    private static void quotients() {
        int least = Integer.MIN_VALUE;
        int[][] rows = {{7, 2, 3}, {-7, 2, -3}, {7, -2, -3}, {-7, -2, 3}, {1, 2, 0}, {-1, 2, 0}, {0, 5, 0}, {least, -1, least}, {least, 1, least},
            {least, least, 1}, {Integer.MAX_VALUE, least, 0}, {6, 3, 2}};
        for (int[] row : rows) {
            new Trial(row[0] + " by " + row[1], "1 " + row[0] + "; 1 " + row[1] + "; 13; 23").returns(1, row[2]);
        }
        for (int of : new int[] {least, -1, 0, 1, Integer.MAX_VALUE}) {
            new Trial(of + " by 0", "1 " + of + "; 1 0; 13; 23").throwsAt(2, 5);
        }
    }

    /** "2 COUNT a (as a long)", "15 COUNT: its lowest 32 bits, INT", "16 INT: COUNT", "1 INT a", "6 MARK (of CODE a)". */
    private static void lowestBits() {
        for (long v : new long[] {0, -1, Long.MIN_VALUE, Long.MAX_VALUE, 1L << 31, (1L << 31) - 1, 1L << 32, -(1L << 31), -(1L << 31) - 1}) {
            new Trial("15 of " + v, "8 0; 15; 23", 2).argument(0, v).returns(1, (int) v);
        }
        for (int a : new int[] {0, -1, 1, Integer.MIN_VALUE, Integer.MAX_VALUE}) {
            new Trial("1 " + a, "1 " + a + "; 23").returns(1, a);
            new Trial("2 " + a, "2 " + a + "; 23").returns(2, a);
            new Trial("16 of " + a, "1 " + a + "; 16; 23").returns(2, a);
            new Trial("6 " + a, "6 " + a + "; 23").returns(8, a);
            new Trial("20 of a MARK of " + a, "6 " + a + "; 20; 23").returns(1, a);
            new Trial("22 of a MARK of " + a, "6 " + a + "; 22").throwsAt(1, a);
            new Trial("5 " + a, "5 " + a + "; 20; 23").returns(1, 0);
        }
    }

    /** "25 INT: to a, if it is 0. 26 REFERENCE: to a, if it is NIL. 27 INT: 0 to a, 1 to b." */
    private static void waysTaken() {
        for (int v : new int[] {Integer.MIN_VALUE, -1, 0, 1, 2, Integer.MAX_VALUE}) {
            new Trial("25 of " + v, "1 " + v + "; 25 3; 23; 23").returns(-1, 0).told(2, v == 0 ? 3 : 2).told(3, 3);
            new Trial("27 of " + v, "1 " + v + "; 27 3 4; 23; 23; 23").returns(-1, 0).told(2, v == 0 ? 3 : v == 1 ? 4 : 2).told(3, 3);
        }
        String[] references = {"3", "4", "1 0; 7", "5", "6 0"};
        for (String one : references) {
            int next = places(one) + 1;
            new Trial("26 of " + one, one + "; 26 " + (next + 1) + "; 23; 23").returns(-1, 0).told(2, one.equals("3") ? next + 1 : next);
        }
    }

    /** "21 REFERENCE: the same, as kind a (5 to 8)": as MADE of kind a, in a run still what it is; "4 what is not of kind a". */
    private static void casts() {
        String[] as = {"5678", "5", "56", "57", "578"};
        int[] kinds = {4, 5, 6, 7, 8};
        String[] pushes = {"3", "4", "1 2; 7", "5", "6 2"};
        for (int i = 0; i < kinds.length; i++) {
            int place = places(pushes[i]);
            for (int a = 5; a <= 8; a++) {
                Trial t = new Trial(kinds[i] + " as " + a, pushes[i] + "; 21 " + a + "; 23").makes(0).stack(place + 1, "" + a);
                if (as[i].indexOf('0' + a) >= 0) {
                    t.returns(kinds[i], kinds[i] == 6 || kinds[i] == 8 ? 2 : 0);
                } else {
                    t.throwsAt(place, 4);
                }
            }
        }
    }
}
