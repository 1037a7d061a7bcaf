/** The edges of part 2, TO MAKE: ROUNDS, DEAD ones, FAULTS OF CODE and which comes first. */
public final class MakeEdgesTest {
    public static void main(String[] args) {
        firstPlace();
        targets();
        ends();
        unlike();
        whichFirst();
        ordersOfOne();
        rounds();
        roundsOfFaults();
        deadPlaces();
        sixtyPlaces();
        again();
        Due.end();
    }

    /** "PLACE 0 is REACHED with the STATE of PARAMETERS, an empty STACK." */
    private static void firstPlace() {
        new Trial("no PARAMETERS", "23").makes(0).locals(0, "").stack(0, "");
        new Trial("eight LOCALS", "23", 1, 2, 5, 6, 7, 8, 1).makes(0).locals(0, "12356781").stack(0, "");
        new Trial("four COUNTS", "23", 2, 2, 2, 2).makes(0).locals(0, "23232323").stack(0, "");
        new Trial("a PARAMETER is JOINED there, too", "6; 9 0; 24 0", 7).framesAt(0).locals(0, "7").locals(2, "8");
        new Trial("and lost", "3; 9 0; 24 0", 1).framesAt(0).locals(0, "0").frame(0, 0, "", "");
    }

    /** "7 TARGET (a PLACE to go to that there is not": PLACES 0 and the last one are, those beside them are not. */
    private static void targets() {
        for (int to : new int[] {Integer.MIN_VALUE, -61, -1, 0, 3, 4, 5, 59, 60, Integer.MAX_VALUE}) {
            boolean is = to >= 0 && to <= 4;
            target("24 to " + to, new Trial("24 to " + to, "0; 0; 24 " + to + "; 23; 23"), is, 2);
            target("25 to " + to, new Trial("25 to " + to, "0; 1; 25 " + to + "; 23; 23"), is, 2);
            target("26 to " + to, new Trial("26 to " + to, "0; 3; 26 " + to + "; 23; 23"), is, 2);
            target("27 to " + to, new Trial("27 to " + to, "0; 1; 27 " + to + " 3; 23; 23"), is, 2);
            target("27 or to " + to, new Trial("27 or to " + to, "0; 1 1; 27 3 " + to + "; 23; 23"), is, 2);
        }
        new Trial("b of 25 is nothing", "1; 25 2 99; 23").makes(1).fits().returns(-1, 0);
        new Trial("b of 24 is nothing", "24 1 99; 23").makes(1).fits().returns(-1, 0);
        new Trial("a of others is nothing", "0 -9 -9; 1 5 -9; 10 -9 -9; 23 -9 -9").makes(0).returns(-1, 0);
    }

    private static void target(String name, Trial t, boolean is, int place) {
        if (is) {
            Due.holds(name + ": make()", t.x.make() >= 0);
            int how = t.x.run(300);
            Due.holds(name + ": run(300)", how == 0 || how == 2);
        } else {
            t.faulty(7, place).endsAt(7, place);
        }
    }

    /** "6 END (it goes on behind the last one; at -1, if there is none)"; "22 to 24 do not go on to the next PLACE, others do." */
    private static void ends() {
        new Trial("no CODE", "").faulty(6, -1).endsAt(6, -1);
        new Trial("no CODE, but PARAMETERS and HANDLERS", "", 1, 2).handler(0, 60, 0, 7).faulty(6, -1).endsAt(6, -1);
        String[] pushes = {"", "", "", "", "", "", "", "1;", "", "1;", "1;", "1; 1;", "1; 1 1;", "1; 1 1;", "2; 2;", "2;", "1;", "1 1; 7; 1 0;",
            "1 1; 7; 1 0; 1;", "1; 7;", "5;", "4;", "5;", "", "", "1 2;", "4;", "1 2;", ""};
        for (int op = 0; op <= 28; op++) {
            int place = pushes[op].isEmpty() ? 0 : pushes[op].split(";").length;
            int a = op == 21 ? 5 : 0;
            Trial t = new Trial(op + " as the last one", pushes[op] + op + " " + a, 1);
            if (op >= 22 && op <= 24) {
                t.makes(op == 24 ? 1 : 0);
                Due.is(op + " as the last one: run(300)", t.x.run(300), op == 22 ? 1 : op == 23 ? 0 : 2);
            } else {
                t.faulty(6, place).endsAt(6, place);
            }
            new Trial(op + " and one more", pushes[op] + op + " " + (op >= 24 && op <= 27 ? place + 1 : a) + " " + (place + 1) + "; 23", 1)
                    .makes(op >= 24 && op <= 27 ? 1 : 0);
        }
        new Trial("a way that is not gone in a run", "1; 25 3; 0; 23; 0").makes(1).returns(-1, 0);
        new Trial("behind the last one, but not in this run", "1; 25 3; 24 4; 23; 0").faulty(6, 4).returns(-1, 0).told(2, 3);
    }

    /** "with STACKS of unlike size UNLIKE": by one place, by all, by each way to go on; a HALF counts as a place. */
    private static void unlike() {
        new Trial("one and none", "1; 1 1; 25 0; 23").faulty(5, 2).returns(1, 0);
        new Trial("two and one", "1; 25 3; 1; 1; 23").faulty(5, 2);
        new Trial("by going on", "1; 25 3; 1; 23").faulty(5, 2);
        new Trial("by 24", "1; 25 3; 23; 1; 24 3").faulty(5, 4);
        new Trial("by 26", "3; 3; 26 0; 23").faulty(5, 2);
        new Trial("by 27, a", "1; 1; 27 0 3; 23").faulty(5, 2);
        new Trial("by 27, b", "1; 1; 27 3 0; 23").faulty(5, 2);
        new Trial("a COUNT and an INT", "1; 25 4; 2; 24 5; 1; 23").faulty(5, 4);
        new Trial("a COUNT and two INTS", "1; 25 4; 2; 24 6; 1; 1; 23").makes(2).stack(6, "00").fits();
        new Trial("six and five", "1; 25 8; " + Trial.times(5, "1") + "24 14; " + Trial.times(6, "1") + "23").faulty(5, 13);
        new Trial("six and six", "1; 25 9; " + Trial.times(6, "1") + "24 15; " + Trial.times(6, "1") + "23").makes(2).stack(15, "111111").fits();
    }

    /** "FAULTS OF CODE, at the PLACE that is WORKED, the first one": along PLACES, ROUND by ROUND. */
    private static void whichFirst() {
        new Trial("two along the code", "0; 25 5; 12; 23").faulty(2, 1);
        new Trial("the nearer in PLACES, though gone to later", "24 2; 10; 1; 25 1; 10").faulty(2, 4);
        new Trial("in the first ROUND, not the one ahead in the second", "1; 25 4; 23; 10; 1; 25 3; 8 7; 23").faulty(1, 6);
        new Trial("in the second ROUND", "1; 25 4; 23; 10; 1; 25 3; 23").faulty(2, 3);
        new Trial("DEAD ones have none", "24 4; 12; 24 99; 8 9; 23; 22; 0").makes(1).fits();
        new Trial("an INT lost on the way back", "1; 9 0; 28 0 1; 3; 9 0; 24 2").faulty(1, 2).endsAt(1, 2);
    }

    /** "(Of one INSTRUCTION: HANDLERS; what goes from the STACK, from the topmost down; LOCAL, then its kind; DEEP; where it goes, in order.)" */
    private static void ordersOfOne() {
        new Trial("topmost WRONG, none below", "3; 12; 23").faulty(1, 1).endsAt(1, 1);
        new Trial("topmost fits, none below", "1; 12; 23").faulty(2, 1).endsAt(2, 1);
        new Trial("topmost fits, WRONG below", "3; 1; 12; 23").faulty(1, 2).endsAt(1, 2);
        new Trial("two fit, none below", "1; 1; 18; 23").faulty(2, 2).endsAt(2, 2);
        new Trial("the second WRONG, none below", "3; 1; 18; 23").faulty(1, 2).endsAt(1, 2);
        new Trial("two fit, WRONG below", "4; 1; 1; 18; 23").faulty(1, 3).endsAt(1, 3);
        new Trial("EMPTY ahead of LOCAL", "9 8; 23").faulty(2, 0).endsAt(2, 0);
        new Trial("LOCAL ahead of its kind, LOAD", "8 8; 23").faulty(4, 0).endsAt(4, 0);
        new Trial("LOCAL ahead of its kind, INC", "28 8; 23").faulty(4, 0).endsAt(4, 0);
        String six = Trial.times(6, "1");
        new Trial("LOCAL ahead of DEEP", six + "8 -1; 23").faulty(4, 6).endsAt(4, 6);
        new Trial("its kind ahead of DEEP", six + "8 0; 23").faulty(1, 6).endsAt(1, 6);
        new Trial("DEEP ahead of END", six + "8 0", 1).faulty(3, 6).endsAt(3, 6);
        new Trial("WRONG ahead of DEEP", Trial.times(5, "1") + "3; 16").faulty(1, 6).endsAt(1, 6);
        new Trial("STACK ahead of TARGET", "25 9").faulty(2, 0).endsAt(2, 0);
        new Trial("STACK ahead of END", "10").faulty(2, 0).endsAt(2, 0);
        new Trial("LOCAL ahead of END", "8 9").faulty(4, 0).endsAt(4, 0);
        new Trial("27: a TARGET, b UNLIKE", "1; 1; 27 9 0; 23").faulty(7, 2);
        new Trial("27: a UNLIKE, b TARGET", "1; 1; 27 0 9; 23").faulty(5, 2);
        new Trial("27: b TARGET, then END", "1 5; 27 0 9").faulty(7, 1).endsAt(6, 1);
        new Trial("25: TARGET, then END", "1 5; 25 9").faulty(7, 1).endsAt(6, 1);
        new Trial("26: UNLIKE, then END", "3; 4; 26 0").faulty(5, 2).endsAt(6, 2);
        new Trial("25: a fits, then UNLIKE", "1; 25 3; 1; 1; 25 3; 23").faulty(5, 2);
    }

    /** "ROUNDS go on till one changes nothing." */
    private static void rounds() {
        rounds("nothing to change", 1, "23");
        rounds("nothing to change, a way to itself", 1, "24 0");
        rounds("along the code", 2, "0; 0; 0; 23");
        rounds("one way back", 3, "24 3; 1; 23; 24 1");
        rounds("one way back to what goes nowhere", 2, "24 2; 23; 24 1");
        rounds("two ways back", 3, "24 4; 23; 24 1; 23; 24 2");
        rounds("three ways back", 4, "24 6; 23; 24 1; 23; 24 2; 23; 24 4");
        rounds("a lifted kind on the way back", 3, "6; 9 0; 0; 5; 9 0; 24 2");
        rounds("the same kind on the way back", 2, "6; 9 0; 0; 6; 9 0; 24 2");
        rounds("the STACK alone is lifted", 3, "6; 0; 10; 5; 24 1");
        rounds("the STACK alone is lifted, nothing behind it", 2, "6; 10; 5; 24 1");
        Trial t = new Trial("a HANDLER behind", "0; 23; 10; 23").handler(0, 1, 2, 7).makes(1);
        Due.is("a HANDLER behind: count(5)", t.x.count(5), 2);
        t = new Trial("a HANDLER ahead", "24 3; 10; 23; 0; 24 3").handler(3, 4, 1, 7).makes(2);
        Due.is("a HANDLER ahead: count(5)", t.x.count(5), 3);
    }

    private static void rounds(String name, int due, String code) {
        Trial t = new Trial(name, code);
        Due.holds(name + ": make()", t.x.make() >= 0);
        Due.is(name + ": count(5)", t.x.count(5), due);
        t.x.run(300);
        t.x.judge();
        t.x.operation(23, 0, 0);
        Due.is(name + ": count(5) of the latest make(), though it is undone", t.x.count(5), due);
        t.x.make();
        Due.is(name + ": count(5) of a make() again", t.x.count(5), due);
    }

    private static void roundsOfFaults() {
        int[] due = {1, 1, 2, 0};
        String[] codes = {"10", "0; 0; 10; 23", "1; 25 4; 23; 10; 1; 25 3; 23", ""};
        for (int i = 0; i < due.length; i++) {
            Trial t = new Trial("ended by a FAULT OF CODE", codes[i]);
            t.x.make();
            Due.is(codes[i] + ": count(5)", t.x.count(5), due[i]);
        }
    }

    /** "DEAD are PLACES that are not REACHED then": count(4), size, kind. */
    private static void deadPlaces() {
        Trial t = new Trial("none", "0; 23").makes(0);
        Due.is("none: count(4)", t.x.count(4), 0);
        t = new Trial("all but the first", "23; 0; 10; 24 1; 23").makes(0).dead(1).dead(2).dead(3).dead(4);
        Due.is("all but the first: count(4)", t.x.count(4), 4);
        t = new Trial("behind 22, 23 and 24", "1; 25 5; 5; 22; 0; 24 7; 0; 23; 0").makes(2).dead(4).dead(6).dead(8);
        Due.is("behind 22, 23 and 24: count(4)", t.x.count(4), 3);
        t = new Trial("fifty-nine", Trial.times(60, "23")).makes(0).dead(59);
        Due.is("fifty-nine: count(4)", t.x.count(4), 59);
        t = new Trial("a way to itself alone", "23; 24 1").makes(0).dead(1);
        t.x.operation(23, 0, 0);
        Due.is("undone: count(4)", t.x.count(4), 0);
        Due.is("undone: size of what was DEAD", t.x.size(1), ClassFrames.STATE);
        new Trial("a handler of DEAD ones", "24 2; 0; 23; 10; 23").handler(1, 2, 3, 7).makes(1).dead(1).dead(3).dead(4);
    }

    /** "CODE has 60 INSTRUCTIONS at most": the last PLACE is worked, gone to, gone from. */
    private static void sixtyPlaces() {
        new Trial("to 59 and on to 58", "24 59; " + Trial.times(57, "0") + "23; 24 58").framesAt(58, 59).fits().returns(-1, 0).told(2, 58);
        new Trial("to 60", "24 60; " + Trial.times(59, "23")).faulty(7, 0).endsAt(7, 0);
        new Trial("behind 59", Trial.times(60, "0")).faulty(6, 59).endsAt(6, 59).told(3, 60);
        new Trial("all along", Trial.times(59, "0") + "23").makes(0).returns(-1, 0).told(3, 60);
        Trial t = new Trial("back from 59, one by one", chain()).makes(59);
        Due.is("back from 59: count(5)", t.x.count(5), 59);
        Due.is("back from 59: count(4)", t.x.count(4), 0);
        t.fits().returns(-1, 0).told(3, 60);
    }

    /** PLACE 0 goes to 59, that to 58, .. and 1 RETURNS: every ROUND reaches one more. */
    private static String chain() {
        StringBuilder code = new StringBuilder("24 59; 23; ");
        for (int p = 2; p < 60; p++) {
            code.append("24 ").append(p - 1).append("; ");
        }
        return code.toString();
    }

    /** A later make() forgets all of an earlier one; a FAULT OF CODE leaves nothing MADE; then a fault() of 0 again. */
    private static void again() {
        Trial t = new Trial("made again", "1; 25 3; 23; 23", 1).framesAt(3).makes(1);
        t.plant(0, 0, 5);
        t.makes(1).frame(0, 3, "1", "").fits();
        t.more("0").makes(1).dead(4);
        t.handler(0, 1, 9, 7).faulty(7, 0);
        Due.is("no FRAMES: count(3)", t.x.count(3), 0);
        Due.is("no DEAD ones: count(4)", t.x.count(4), 0);
        Due.is("no kinds", t.x.kind(0, 0), ClassFrames.STATE);
        Due.is("no sizes", t.x.size(0), ClassFrames.STATE);
        Due.is("no FRAME", t.x.frame(0, 0), ClassFrames.STATE);
        Due.is("nothing to plant", t.x.plant(0, 0, 1), ClassFrames.STATE);
        Due.is("nothing to pack", t.x.packed(), ClassFrames.STATE);
        t.x.clear();
        Due.is("fault() stays", t.x.fault(), 7);
        t.more("23").makes(0);
    }
}
