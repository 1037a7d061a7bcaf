/** The edges of part 3, TO JUDGE: torn COUNTS, what came, HANDLERS, ops, which PLACE is the first. */
public final class JudgeEdgesTest {
    public static void main(String[] args) {
        tornAtEnds();
        tornAheadOfAll();
        whatCame();
        goesOnFromThere();
        handlerStacks();
        handlerOrder();
        waysOfOne();
        deadOnes();
        ofEachOp();
        unmade();
        Due.end();
    }

    private static Trial full() {
        return new Trial("eight LOCALS, six places", Trial.times(6, "3") + "24 7; 23", 1, 1, 1, 1, 1, 1, 1, 1).makes(1).fits();
    }

    /** "a FRAME in which a COUNT has no HALF behind it, or a HALF no COUNT ahead, is refused at its PLACE": in every entry. */
    private static void tornAtEnds() {
        for (int i = 0; i < 14; i++) {
            full().plant(0, i, 2).refusedAt(7);
            full().plant(0, i, 3).refusedAt(7);
        }
        for (int i = 0; i < 13; i++) {
            Trial t = full().plant(0, i, 2).plant(0, i + 1, 3);
            t.refusedAt(i == 7 ? 7 : 6);
            full().plant(0, i, 3).plant(0, i + 1, 2).refusedAt(7);
            full().plant(0, i, 2).plant(0, i + 1, 2).refusedAt(7);
            full().plant(0, i, 3).plant(0, i + 1, 3).refusedAt(7);
        }
        new Trial("a COUNT, the last one of LOCALS", "24 1; 23", 1, 1).makes(1).plant(0, 1, 2).refusedAt(1);
        new Trial("a COUNT becomes TOP as a whole", "24 1; 23", 2).makes(1).plant(0, 0, 0).refusedAt(1).plant(0, 1, 0).fits();
        new Trial("a HALF becomes TOP first", "24 1; 23", 2).makes(1).plant(0, 1, 0).refusedAt(1).plant(0, 0, 0).fits();
        new Trial("a second HALF", "2; 3; 24 3; 23").makes(1).plant(0, 2, 3).refusedAt(3);
    }

    /** "(all FRAMES ahead of all else)": torn ones in order of PLACES, all ahead of what would be refused earlier. */
    private static void tornAheadOfAll() {
        Trial t = new Trial("three FRAMES", "24 1; 24 2; 24 3; 23", 1).makes(3);
        t.plant(0, 0, 5).refusedAt(0);
        t.plant(2, 0, 2).refusedAt(3);
        t.plant(1, 0, 3).refusedAt(2);
        t.plant(0, 0, 2).refusedAt(1);
        t.plant(0, 0, 1).plant(1, 0, 1).refusedAt(3);
        t.plant(2, 0, 1).fits();
    }

    /** "where a FRAME is, what came (if something went on to it) GOES AS it" at the FRAME's PLACE; nothing comes behind 22 to 24 or DEAD ones. */
    private static void whatCame() {
        new Trial("PARAMETERS to PLACE 0", "0; 1; 25 0; 23", 6).makes(1).plant(0, 0, 5).fits().plant(0, 0, 0).fits().plant(0, 0, 7).refusedAt(0);
        new Trial("by going on, LOCALS", "6; 9 0; 0; 1; 25 2; 23").makes(1).plant(0, 0, 7).fits().plant(0, 0, 6).refusedAt(2);
        new Trial("by going on, the STACK", "6; 0; 1; 25 1; 23").makes(1).plant(0, 0, 5).fits().plant(0, 0, 6).refusedAt(1);
        new Trial("nothing behind 24", "1; 25 4; 3; 24 7; 4; 9 0; 23; 23", 1).makes(2).fits();
        new Trial("nothing behind 23", "24 2; 23; 24 1", 1).makes(2).fits().plant(0, 0, 0).fits();
        new Trial("the last LOCAL", "24 1; 23", 1, 1, 1, 1, 1, 1, 1, 1).makes(1).plant(0, 7, 4).refusedAt(0);
        new Trial("the last place of the STACK", Trial.times(6, "1") + "24 7; 23").makes(1).plant(0, 5, 4).refusedAt(6);
        new Trial("the first place of the STACK", Trial.times(6, "1") + "24 7; 23").makes(1).plant(0, 0, 4).refusedAt(6);
        new Trial("a LOCAL that is TOP there", "1; 9 1; 24 3; 23").makes(1).plant(0, 0, 1).refusedAt(2);
        new Trial("NIL does not go as INT", "3; 24 2; 23").makes(1).plant(0, 0, 1).refusedAt(1);
        new Trial("a THING does not go as NIL", "4; 24 2; 23").makes(1).plant(0, 0, 4).refusedAt(1);
    }

    /** "and it goes on from there": with what the FRAME tells, not with what came. */
    private static void goesOnFromThere() {
        Trial t = new Trial("a FAULT of a MARK", "6; 24 2; 0; 20; 23").makes(1);
        t.plant(0, 0, 7).fits().plant(0, 0, 5).refusedAt(3).plant(0, 0, 0).refusedAt(3);
        t = new Trial("TOP, used later", "24 1; 0; 0; 28 0 1; 23", 1).makes(1).plant(0, 0, 0).refusedAt(3);
        t = new Trial("TOP, stored ahead of that", "24 1; 1; 9 0; 28 0 1; 23", 1).makes(1).plant(0, 0, 0).fits();
        t = new Trial("NIL that is planted as a ROW", "3; 24 2; 19; 23").makes(1).plant(0, 0, 6).fits().plant(0, 0, 7).refusedAt(2);
        t = new Trial("from FRAME to FRAME", "3; 24 2; 24 3; 19; 23").makes(2).plant(0, 0, 7).refusedAt(2).plant(1, 0, 7).refusedAt(3);
        t.plant(0, 0, 6).refusedAt(2).plant(1, 0, 6).fits();
    }

    /** "LOCALS GO AS those of the FRAME there, its STACK is one that the HANDLER's kind GOES AS". */
    private static void handlerStacks() {
        for (int handled = 7; handled <= 8; handled++) {
            for (int kind = 0; kind <= 8; kind++) {
                Trial t = new Trial(handled + " to a planted " + kind, "0; 0; 0; 23; 23", 1).handler(1, 2, 4, handled).makes(1).plant(0, 1, kind);
                if (kind == 2 || kind == 3) {
                    t.refusedAt(4);
                } else if (kind == 0 || kind == 5 || kind == 7 || kind == handled) {
                    t.fits();
                } else {
                    t.refusedAt(1);
                }
            }
        }
        new Trial("a HANDLER without a PLACE, no STACK there", "0; 0; 23").handler(0, 0, 1, 7).makes(1).fits();
    }

    /** HANDLERS ahead of the op, each of them, at each PLACE that is not DEAD. */
    private static void handlerOrder() {
        Trial t = new Trial("LOCALS ahead of the op", "4; 9 0; 23; 10; 23", 6).handler(1, 2, 3, 7).makes(1);
        t.plant(0, 0, 6).fits();
        t = new Trial("and behind it", "4; 9 0; 23; 10; 23", 6).handler(1, 3, 3, 7).makes(1);
        t.plant(0, 0, 6).refusedAt(2).plant(0, 0, 5).fits();
        t = new Trial("the second HANDLER", "0; 0; 23; 10; 23; 10; 23", 1).handler(0, 1, 3, 7).handler(0, 2, 5, 8).makes(2);
        t.plant(1, 0, 5).refusedAt(0);
        t = new Trial("a PLACE with a FRAME, by its planted LOCALS", "24 1; 0; 23; 10; 23", 8).handler(1, 2, 3, 7).makes(2);
        t.plant(0, 0, 7).refusedAt(1).plant(1, 0, 7).fits().plant(0, 0, 8).fits();
    }

    /** "what goes on by 24 to 27 GOES AS the FRAME there": a and b of 27, then the next one at its own PLACE. */
    private static void waysOfOne() {
        for (int f = 0; f < 3; f++) {
            Trial t = new Trial("27, FRAME " + f, "1; 27 3 4; 24 2; 24 2; 24 2", 1).framesAt(2, 3, 4).plant(f, 0, 6);
            t.refusedAt(f == 0 ? 2 : 1);
        }
        new Trial("25, the next one", "1; 25 3; 24 2; 24 2", 1).framesAt(2, 3).plant(0, 0, 6).refusedAt(2);
        new Trial("25, a", "1; 25 3; 24 2; 24 2", 1).framesAt(2, 3).plant(1, 0, 6).refusedAt(1);
        new Trial("26, a", "3; 26 3; 24 2; 24 2", 1).framesAt(2, 3).plant(1, 0, 6).refusedAt(1);
        new Trial("back by 24", "0; 0; 24 1", 1).framesAt(1).plant(0, 0, 0).fits().plant(0, 0, 6).refusedAt(1);
        new Trial("back by 24 alone", "3; 9 0; 0; 4; 9 0; 24 2").framesAt(2).frame(0, 2, "5", "").plant(0, 0, 6).refusedAt(5);
        new Trial("after the op: the INT is gone", "3; 1; 25 3; 23").makes(1).frame(0, 3, "", "4").plant(0, 0, 6).fits().plant(0, 0, 1).refusedAt(2);
    }

    /** "along all that are not DEAD". */
    private static void deadOnes() {
        new Trial("DEAD ones that are WRONG", "24 4; 12; 24 99; 8 9; 23", 1).makes(1).fits();
        new Trial("DEAD ones that would not go as the FRAME", "24 3; 3; 9 0; 23", 1).makes(1).fits().plant(0, 0, 6).refusedAt(0);
        new Trial("a HANDLER of DEAD ones", "24 3; 0; 0; 23", 1).handler(1, 3, 2, 7).makes(1).fits();
    }

    /** "then the op, as in part 2": WRONG by a planted kind, at the PLACE of the op. */
    private static void ofEachOp() {
        String[] pushes = {"3", "3; 1", "3; 1; 1", "3", "3", "3", "3"};
        String[] ops = {"19", "17", "18", "20", "22", "21 5", "26 T"};
        String[] fitting = {"46", "46", "46", "478", "478", "45678", "45678"};
        for (int i = 0; i < ops.length; i++) {
            int jump = pushes[i].split(";").length;
            for (int kind = 0; kind <= 8; kind++) {
                Trial t = new Trial(ops[i] + " of a planted " + kind, pushes[i] + "; 24 " + (jump + 1) + "; " + ops[i].replace("T", "" + (jump + 2))
                        + "; 23");
                Due.holds(ops[i] + ": make()", t.x.make() >= 1);
                t.plant(0, 0, kind);
                if (fitting[i].indexOf('0' + kind) >= 0) {
                    t.fits();
                } else {
                    t.refusedAt(kind == 1 ? jump : jump + 1);
                }
            }
        }
    }

    private static void unmade() {
        Trial t = new Trial("not made", "24 1; 23");
        Due.is("nothing is MADE", t.x.judge(), ClassFrames.STATE);
        Due.is("no CODE", new ClassFrames().judge(), ClassFrames.STATE);
        t.makes(1).fits().fits();
        t.x.run(0);
        t.fits();
        t.x.argument(0, 5);
        t.fits().more("23");
        Due.is("undone", t.x.judge(), ClassFrames.STATE);
    }
}
