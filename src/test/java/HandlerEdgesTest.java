/** The edges of HANDLERS: which PLACES they have, which one counts, where they go on; in make(), judge() and run(). */
public final class HandlerEdgesTest {
    public static void main(String[] args) {
        placesMade();
        localsOfThePlace();
        placesJudged();
        placesRun();
        firstThatFits();
        sixth();
        targets();
        stackAlone();
        ownPlace();
        orderOfMany();
        lastPlaces();
        Due.end();
    }

    /** "in PLACES from .. to - 1": an INT that becomes NIL tells which PLACES a HANDLER has. */
    private static void placesMade() {
        for (int from = 0; from <= 9; from++) {
            for (int to = 0; to <= 9; to++) {
                String name = "HANDLER " + from + " to " + to;
                Trial t = new Trial(name, "3; 9 0; 3; 9 1; 3; 9 2; 23; 10; 23", 1, 1, 1, 1).handler(from, to, 7, 7);
                int last = Math.min(to - 1, 6);
                if (from > last) {
                    t.makes(0).dead(7).dead(8);
                    continue;
                }
                StringBuilder due = new StringBuilder();
                for (int k = 0; k < 3; k++) {
                    int stored = 2 * k + 2;
                    due.append(last < stored ? 1 : from >= stored ? 4 : 0);
                }
                t.makes(1).frame(0, 7, due + "1", "7").locals(7, due + "1").stack(7, "7").stack(8, "").fits();
            }
        }
    }

    /** "its LOCALS": those of the PLACE that is WORKED, not of the one WORKED ahead of it, nor those behind the op. */
    private static void localsOfThePlace() {
        new Trial("a way round a STORE", "1; 25 5; 3; 9 0; 24 5; 0; 23; 10; 23", 1, 5).handler(5, 6, 7, 7).makes(2).locals(7, "05").fits();
        new Trial("a way to the PLACE alone", "1; 25 5; 3; 9 0; 23; 0; 23; 10; 23", 1, 5).handler(5, 6, 7, 7).makes(2).locals(7, "15").fits();
        new Trial("ahead of a STORE", "3; 9 0; 23; 10; 23", 1).handler(1, 2, 3, 7).makes(1).locals(3, "1").fits();
        new Trial("behind a STORE", "3; 9 0; 23; 10; 23", 1).handler(2, 3, 3, 7).makes(1).locals(3, "4").fits();
        new Trial("ahead of a STORE and behind it", "3; 9 0; 23; 10; 23", 6).handler(1, 3, 3, 7).makes(1).locals(3, "6").fits();
    }

    /** Planted LOCALS that hold only at PLACES 0 to 3: the first PLACE of the HANDLER behind them is refused. */
    private static void placesJudged() {
        for (int from = 0; from <= 7; from++) {
            for (int to = from + 1; to <= 7; to++) {
                Trial t = new Trial("judge " + from + " to " + to, "0; 0; 3; 9 0; 0; 0; 23; 10; 23", 1, 1).handler(from, to, 7, 7).makes(1);
                t.plant(0, 0, 1);
                if (to <= 4) {
                    t.fits();
                } else {
                    t.refusedAt(Math.max(from, 4));
                }
                t.plant(0, 0, 8);
                if (from >= 4) {
                    t.fits();
                } else {
                    t.refusedAt(from);
                }
            }
        }
    }

    /** What is THROWN at a PLACE goes to a HANDLER that has it, and to none that ends ahead of it or begins behind it. */
    private static void placesRun() {
        for (int at = 1; at <= 4; at++) {
            for (int from = 0; from <= 6; from++) {
                for (int to = 0; to <= 6; to++) {
                    for (String thrown : new String[] {"5", "3"}) {
                        String code = Trial.times(at - 1, "0") + thrown + "; 22; " + Trial.times(5 - at, "0") + "23; 20; 23";
                        Trial t = new Trial("thrown at " + at + ", " + from + " to " + to, code).handler(from, to, 7, 7);
                        if (from <= at && at < to) {
                            t.returns(1, thrown.equals("3") ? 1 : 0).told(2, 8).told(3, at + 3);
                        } else {
                            t.throwsAt(at, thrown.equals("3") ? 1 : 0).told(3, at + 1);
                        }
                    }
                }
            }
        }
    }

    /** "the first one that fits counts", "if it GOES AS the kind (7, 8)". */
    private static void firstThatFits() {
        String[] thrown = {"6 9; 22", "5; 22", "3; 22"};
        int[] kinds = {8, 7, 7};
        int[] codes = {9, 0, 1};
        for (int i = 0; i < thrown.length; i++) {
            for (int first = 7; first <= 8; first++) {
                for (int second = 7; second <= 8; second++) {
                    Trial t = new Trial(thrown[i] + " to " + first + ", " + second, thrown[i] + "; 23; 23").handler(1, 2, 2, first).handler(1, 2, 3,
                            second);
                    boolean isFirst = kinds[i] == 8 || first == 7;
                    boolean isSecond = kinds[i] == 8 || second == 7;
                    if (isFirst || isSecond) {
                        t.returns(kinds[i], codes[i]).told(2, isFirst ? 2 : 3);
                    } else {
                        t.throwsAt(1, codes[i]);
                    }
                }
            }
        }
    }

    /** "HANDLERS (6 at most": the sixth one is worked, judged and takes what is thrown. */
    private static void sixth() {
        Trial t = new Trial("six HANDLERS", "5; 22; 23; 20; 23", 6);
        for (int h = 0; h < 5; h++) {
            t.handler(0, 1, 2, 8);
        }
        t.handler(1, 2, 3, 7);
        Due.is("the seventh", t.x.handler(0, 5, 2, 7), ClassFrames.FULL);
        t.framesAt(2, 3).frame(1, 3, "6", "7").fits().returns(1, 0).told(2, 4);
        t.plant(1, 0, 7).refusedAt(1);
    }

    /** "7 TARGET (a PLACE to go to that there is not; a HANDLER's too)". */
    private static void targets() {
        for (int at = 0; at <= 60; at++) {
            Trial t = new Trial("HANDLER at " + at, "0; 5; 22; 10; 23; 23").handler(2, 3, at, 7);
            if (at >= 6) {
                t.faulty(7, 2).endsAt(7, 2).told(3, 3);
            } else if (at >= 2) {
                t.framesAt(at).stack(at, "7").fits();
            } else {
                t.faulty(5, 2);
            }
        }
        new Trial("a HANDLER without a PLACE, no PLACE to go to", "23").handler(0, 0, 60, 7).handler(1, 60, 60, 7).handler(60, 0, 60, 8).makes(0)
                .fits().returns(-1, 0);
        new Trial("not taken, so gone nowhere", "5; 22").handler(0, 2, 60, 8).faulty(7, 0).throwsAt(1, 0);
        new Trial("sixty PLACES, at 60", Trial.times(60, "23")).handler(0, 1, 60, 7).faulty(7, 0);
        new Trial("sixty PLACES, at 59", Trial.times(60, "23")).handler(0, 1, 59, 7).framesAt(59).stack(59, "7");
    }

    /** "goes on at a PLACE, the STACK having it alone": what lay there is gone, LOCALS stay. */
    private static void stackAlone() {
        String five = Trial.times(5, "1 3");
        new Trial("from a full STACK", five + "6 7; 22; 23").handler(6, 7, 7, 8).makes(1).stack(7, "8").returns(8, 7);
        new Trial("what lay below is gone", five + "6 7; 22; 10; 10; 23").handler(6, 7, 7, 8).faulty(2, 8).endsAt(2, 8);
        new Trial("five places are free", five + "6 7; 22; 1; 2; 2; 23").handler(6, 7, 7, 8).makes(1).stack(10, "812323").returns(2, 0);
        new Trial("LOCALS stay", "2 8; 9 6; 5; 22; 8 6; 23").handler(3, 4, 4, 7).makes(1).locals(4, "00000023").returns(2, 8);
        new Trial("the same FAULT again", "6 5; 22; 22; 20; 23").handler(1, 2, 2, 8).handler(2, 3, 3, 7).makes(2).returns(1, 5).told(3, 5);
    }

    /** A HANDLER that has its own PLACE. */
    private static void ownPlace() {
        new Trial("thrown there again", "5; 22").handler(0, 2, 1, 7).framesAt(1).fits();
        new Trial("PLACE 0 has no STACK", "0; 23").handler(0, 1, 0, 7).faulty(5, 0);
        new Trial("PLACE 0, no PLACE of its own", "0; 23").handler(0, 0, 0, 7).framesAt(0).frame(0, 0, "", "").fits();
        new Trial("kinds are lifted there", "6; 22").handler(1, 2, 1, 7).framesAt(1).stack(1, "7").fits();
        Trial t = new Trial("a run that goes on so", "6 3; 22").handler(1, 2, 1, 8);
        Due.is("run(300)", t.x.run(300), 2);
        t.told(2, 1).told(3, 300);
    }

    /** "first, for each HANDLER that has it, in order": the first one that does not fit tells the FAULT. */
    private static void orderOfMany() {
        new Trial("UNLIKE, then TARGET", "0; 0; 23").handler(1, 2, 0, 7).handler(1, 2, 9, 7).faulty(5, 1);
        new Trial("TARGET, then UNLIKE", "0; 0; 23").handler(1, 2, 9, 7).handler(1, 2, 0, 7).faulty(7, 1);
        new Trial("a HANDLER ahead of EMPTY", "0; 10; 23").handler(1, 2, 9, 7).faulty(7, 1).endsAt(2, 1);
        new Trial("a HANDLER ahead of WRONG", "3; 12; 23").handler(1, 2, 9, 7).faulty(7, 1).endsAt(1, 1);
        new Trial("a HANDLER ahead of LOCAL", "0; 8 9; 23").handler(1, 2, 9, 7).faulty(7, 1).endsAt(4, 1);
        new Trial("a HANDLER ahead of END", "0; 0").handler(1, 2, 9, 7).faulty(7, 1).endsAt(6, 1);
        new Trial("a HANDLER of the PLACE ahead", "0; 10; 23").handler(0, 1, 9, 7).faulty(7, 0).endsAt(2, 1);
        new Trial("JOINED by two", "0; 23; 23").handler(0, 1, 2, 8).handler(0, 1, 2, 7).makes(1).stack(2, "7").fits();
        new Trial("JOINED by two, the other way", "0; 23; 23").handler(0, 1, 2, 7).handler(0, 1, 2, 8).makes(1).stack(2, "7").fits();
        new Trial("two of one kind", "0; 23; 23").handler(0, 1, 2, 8).handler(0, 1, 2, 8).makes(1).stack(2, "8").fits();
    }

    /** from, to and at at their largest: PLACE 59 is had by a HANDLER to 60, and by none to 59. */
    private static void lastPlaces() {
        String code = "0; 23; " + Trial.times(56, "0") + "5; 22";
        new Trial("PLACE 59 is DEAD", code).handler(59, 60, 1, 7).makes(1).dead(59);
        String whole = "24 2; 23; " + Trial.times(56, "0") + "5; 22";
        new Trial("to 60", whole).handler(59, 60, 1, 7).framesAt(1, 2).fits().returns(7, 0).told(3, 60);
        new Trial("to 59", whole).handler(0, 59, 1, 7).framesAt(1, 2).fits().throwsAt(59, 0).told(3, 59);
        new Trial("from 60", whole).handler(60, 60, 1, 7).makes(1).dead(1).throwsAt(59, 0);
        new Trial("at 59", "5; 22; " + Trial.times(57, "0") + "23").handler(1, 2, 59, 7).framesAt(59).fits().returns(7, 0).told(2, 59);
    }
}
