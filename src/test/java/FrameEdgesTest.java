/** The edges of FRAMES: which PLACES have one, how many LOCALS, which what and i there are; promises 7 to 10. */
public final class FrameEdgesTest {
    private static final int[] FAR = {Integer.MIN_VALUE, Integer.MIN_VALUE + 2, -4, -3, -2, -1};

    public static void main(String[] args) {
        whichPlaces();
        everySize();
        holes();
        sixtyFrames();
        kindsAndSizes();
        below();
        plantedOnce();
        plantedNowhere();
        Due.end();
    }

    /** "for each REACHED PLACE, in order, that is a HANDLER's, that a REACHED one goes to by 24 to 27, or ahead of which .. DEAD or does not go on" */
    private static void whichPlaces() {
        new Trial("none", "0; 0; 23").framesAt();
        new Trial("PLACE 0 has none ahead", "0; 1; 10; 23").framesAt();
        new Trial("PLACE 0, gone to by 24", "0; 24 0").framesAt(0);
        new Trial("PLACE 0, gone to by 25", "1; 25 0; 23").framesAt(0);
        new Trial("PLACE 0, gone to by 26", "3; 26 0; 23").framesAt(0);
        new Trial("PLACE 0, gone to by 27", "1; 27 0 2; 23").framesAt(0, 2);
        new Trial("by b of 27", "1; 27 3 4; 23; 23; 23").framesAt(3, 4);
        new Trial("a and b of 27 alike", "1; 27 3 3; 23; 23").framesAt(3);
        new Trial("the next one by 24", "24 1; 23").framesAt(1);
        new Trial("the next one by 25", "1; 25 2; 23").framesAt(2);
        new Trial("the next one by 26", "3; 26 2; 23").framesAt(2);
        new Trial("the next one by going on alone", "1; 25 3; 23; 23").framesAt(3);
        new Trial("gone to by a DEAD one", "0; 24 4; 24 1; 25 0; 0; 23").framesAt(4);
        new Trial("a DEAD one gone to by a DEAD one", "23; 24 2; 24 1").framesAt();
        new Trial("gone to twice", "1; 25 4; 1; 25 4; 23").framesAt(4);
        new Trial("in order of PLACES", "1; 25 5; 24 3; 24 6; 23; 24 3; 23").framesAt(3, 5, 6);
        new Trial("behind 22", "1; 25 4; 5; 22; 23").framesAt(4);
        new Trial("behind 23", "1; 25 3; 23; 23").framesAt(3);
        new Trial("a HANDLER's", "0; 23; 23").handler(0, 1, 2, 7).framesAt(2);
        new Trial("a HANDLER's that is DEAD", "0; 23; 23").handler(1, 1, 2, 7).framesAt();
        new Trial("a HANDLER's that is only gone along", "0; 0; 23").handler(2, 2, 1, 7).framesAt(1);
        new Trial("a HANDLER's at 60", "0; 23").handler(2, 2, 60, 7).framesAt();
        new Trial("a and b of other ops are no PLACES", "1 2 2; 9 2 2; 0 1 1; 23 0 0").framesAt();
    }

    /** "its LOCALS up to the last that is not TOP, its STACK": every number of both, every what and the first that is none. */
    private static void everySize() {
        for (int locals = 0; locals <= 8; locals++) {
            for (int stack = 0; stack <= 6; stack++) {
                String stored = locals == 0 ? "" : "3; 9 " + (locals - 1) + "; ";
                int jump = (locals == 0 ? 0 : 2) + stack;
                Trial t = new Trial(locals + " LOCALS, a STACK of " + stack, stored + Trial.times(stack, "1") + "24 " + (jump + 1) + "; 23");
                String due = locals == 0 ? "" : "0".repeat(locals - 1) + "4";
                t.framesAt(jump + 1).frame(0, jump + 1, due, "1".repeat(stack)).locals(jump + 1, due).stack(jump + 1, "1".repeat(stack));
                Due.is("frame(0, MAX)", t.x.frame(0, Integer.MAX_VALUE), ClassFrames.NONE);
                Due.is("plant() of the first that is none", t.x.plant(0, locals + stack, 1), ClassFrames.NONE);
                Due.is("plant() of the last one that can be told", t.x.plant(0, Integer.MAX_VALUE, 1), ClassFrames.NONE);
                Due.is("plant() of one less", t.x.plant(0, Integer.MAX_VALUE - 3, 1), ClassFrames.NONE);
                t.frame(0, jump + 1, due, "1".repeat(stack)).fits();
            }
        }
    }

    private static void holes() {
        new Trial("a HALF is the last", "2; 9 6; 24 3; 23").makes(1).frame(0, 3, "00000023", "").fits();
        new Trial("a COUNT lost, an INT left", "2; 9 0; 1; 9 1; 24 5; 23").makes(1).frame(0, 5, "01", "").fits();
        new Trial("a HALF lost at the end", "2; 9 0; 1; 9 0; 24 5; 23").makes(1).frame(0, 5, "1", "").fits();
        new Trial("all lost", "3; 9 0; 24 0", 1).makes(1).frame(0, 0, "", "").fits();
        new Trial("TOP on the STACK stays", "1; 25 4; 1; 24 5; 3; 23").makes(2).frame(1, 5, "", "0").fits();
    }

    private static void sixtyFrames() {
        StringBuilder code = new StringBuilder("1; ");
        for (int p = 1; p < 59; p++) {
            code.append("24 ").append(p + 1).append("; ");
        }
        Trial t = new Trial("58 FRAMES", code + "23").makes(58);
        t.frame(0, 2, "", "1").frame(57, 59, "", "1");
        Due.is("FRAME 58", t.x.frame(58, 0), ClassFrames.NONE);
        new Trial("gone along, then back", Trial.times(59, "0") + "24 0").framesAt(0);
        StringBuilder all = new StringBuilder();
        for (int p = 0; p < 60; p++) {
            all.append("24 ").append((p + 1) % 60).append("; ");
        }
        t = new Trial("each gone to", all.toString(), 2).makes(60);
        Due.is("each gone to: count(3)", t.x.count(3), 60);
        for (int f = 0; f < 60; f++) {
            t.frame(f, f, "23", "");
        }
        Due.is("FRAME 60", t.x.frame(60, 0), ClassFrames.NONE);
        Due.is("plant() in FRAME 60", t.x.plant(60, 0, 1), ClassFrames.NONE);
        t.fits().plant(59, 0, 0).plant(59, 1, 0).refusedAt(59).plant(0, 0, 0).plant(0, 1, 0).refusedAt(0);
    }

    /** "of LOCAL i (0 to 7), of the STACK from 8 on; NONE: no such, DEAD. BAD: no such PLACE." */
    private static void kindsAndSizes() {
        Trial t = new Trial("six on the STACK", Trial.times(6, "1") + "23; 23", 5).makes(0);
        for (int p = 0; p <= 6; p++) {
            t.stack(p, "1".repeat(p)).locals(p, "5");
        }
        for (int i : new int[] {Integer.MIN_VALUE, -8, -1, 14, 15, 22, Integer.MAX_VALUE}) {
            Due.is("kind(6, " + i + ")", t.x.kind(6, i), ClassFrames.NONE);
            Due.is("kind(7, " + i + ") of a DEAD one", t.x.kind(7, i), ClassFrames.NONE);
        }
        t.dead(7);
        for (int at : new int[] {Integer.MIN_VALUE, -1, 8, 59, 60, 61, Integer.MAX_VALUE}) {
            for (int i : new int[] {-1, 0, 7, 8, 14}) {
                Due.is("kind(" + at + ", " + i + ")", t.x.kind(at, i), ClassFrames.BAD);
            }
            Due.is("size(" + at + ")", t.x.size(at), ClassFrames.BAD);
        }
        t.x.handler(0, 0, 0, 7);
        Due.is("BAD ahead of STATE: kind", t.x.kind(8, 0), ClassFrames.BAD);
        Due.is("BAD ahead of STATE: size", t.x.size(8), ClassFrames.BAD);
        Due.is("STATE ahead of NONE: kind", t.x.kind(6, 14), ClassFrames.STATE);
        Due.is("STATE ahead of NONE: kind below 0", t.x.kind(6, -1), ClassFrames.STATE);
        Due.is("STATE: kind of what was DEAD", t.x.kind(7, 0), ClassFrames.STATE);
        Due.is("STATE: size", t.x.size(6), ClassFrames.STATE);
    }

    /** "BAD: f, what below 0." "BAD: also kind not 0 to 8." BAD comes ahead of STATE, that ahead of NONE. */
    private static void below() {
        Trial made = new Trial("made", "3; 24 2; 23", 1).makes(1);
        Trial unmade = new Trial("not made", "3; 24 2; 23", 1);
        for (Trial t : new Trial[] {made, unmade}) {
            int then = t == made ? ClassFrames.NONE : ClassFrames.STATE;
            for (int far : FAR) {
                Due.is("frame(" + far + ", 0)", t.x.frame(far, 0), ClassFrames.BAD);
                Due.is("frame(0, " + far + ")", t.x.frame(0, far), ClassFrames.BAD);
                Due.is("frame(9, " + far + ")", t.x.frame(9, far), ClassFrames.BAD);
                Due.is("plant(" + far + ", 0, 1)", t.x.plant(far, 0, 1), ClassFrames.BAD);
                Due.is("plant(0, " + far + ", 1)", t.x.plant(0, far, 1), ClassFrames.BAD);
                Due.is("plant(0, 0, " + far + ")", t.x.plant(0, 0, far), ClassFrames.BAD);
                Due.is("plant(9, 9, " + far + ")", t.x.plant(9, 9, far), ClassFrames.BAD);
            }
            for (int kind : new int[] {9, 10, Integer.MAX_VALUE}) {
                Due.is("plant(0, 0, " + kind + ")", t.x.plant(0, 0, kind), ClassFrames.BAD);
            }
            Due.is("frame(1, 0)", t.x.frame(1, 0), then);
            Due.is("frame(MAX, 0)", t.x.frame(Integer.MAX_VALUE, 0), then);
            Due.is("frame(0, 5)", t.x.frame(0, 5), then);
            Due.is("plant(1, 0, 1)", t.x.plant(1, 0, 1), then);
            Due.is("plant(MAX, 0, 1)", t.x.plant(Integer.MAX_VALUE, 0, 1), then);
            Due.is("plant(0, 2, 1)", t.x.plant(0, 2, 1), then);
        }
        made.frame(0, 2, "1", "4").fits();
        Due.is("no FRAMES: frame(0, 0)", new Trial("no FRAMES", "23").makes(0).x.frame(0, 0), ClassFrames.NONE);
        Due.is("no FRAMES: plant(0, 0, 0)", new Trial("no FRAMES", "23").makes(0).x.plant(0, 0, 0), ClassFrames.NONE);
    }

    /** "Entry i (as frame(f, 3 + i)) becomes another kind: what it was.": each entry, each kind, and none beside it. */
    private static void plantedOnce() {
        for (int i = 0; i < 6; i++) {
            for (int kind = 0; kind <= 8; kind++) {
                Trial t = new Trial("entry " + i + " becomes " + kind, "2; 4; 24 3; 24 4; 23", 1, 5, 6).makes(2);
                char[] due = "156235".toCharArray();
                t.plant(1, i, kind);
                due[i] = (char) ('0' + kind);
                t.frame(1, 4, new String(due, 0, 3), new String(due, 3, 3)).frame(0, 3, "156", "235");
                t.locals(4, "156").stack(4, "235");
                Due.is("planted anew", t.x.plant(1, i, 0), kind);
                Due.is("FRAMES", t.x.count(3), 2);
            }
        }
    }

    /** What is planted goes with a make() and leaves fault(), ROUNDS and the latest run() as they were. */
    private static void plantedNowhere() {
        Trial t = new Trial("planted", "1; 25 2; 23", 1).makes(1).returns(-1, 0);
        int rounds = t.x.count(5);
        t.plant(0, 0, 8).plant(0, 0, 8).refusedAt(1);
        Due.is("planted: fault()", t.x.fault(), 0);
        Due.is("planted: count(5)", t.x.count(5), rounds);
        t.told(3, 3);
        t.returns(-1, 0).refusedAt(1).makes(1).fits();
    }
}
