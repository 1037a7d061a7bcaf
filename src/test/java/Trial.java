import java.util.ArrayList;
import java.util.List;

/** No test by itself: one object with a code told as text ("1 5; 7; 23"), its answers compared with those that are due. */
final class Trial {
    final ClassFrames x = new ClassFrames();
    private final String name;

    Trial(String name, String code, int... parameters) {
        this.name = name;
        for (int kind : parameters) {
            Due.holds(name + ": parameter(" + kind + ")", x.parameter(kind) >= 0);
        }
        more(code);
    }

    Trial more(String code) {
        for (String row : code.split(";")) {
            if (!row.isBlank()) {
                String[] words = row.trim().split(" +");
                int place = x.operation(number(words, 0), number(words, 1), number(words, 2));
                Due.is(name + ": operation(" + row.trim() + ")", place, x.count(0) - 1);
            }
        }
        return this;
    }

    private static int number(String[] words, int i) {
        return i < words.length ? Integer.parseInt(words[i]) : 0;
    }

    /** The same rows so many times. */
    static String times(int many, String rows) {
        return (rows + "; ").repeat(Math.max(many, 0));
    }

    Trial handler(int from, int to, int at, int kind) {
        Due.is(name + ": handler", x.handler(from, to, at, kind), x.count(1) - 1);
        return this;
    }

    Trial argument(int i, long v) {
        x.argument(i, v);
        return this;
    }

    Trial makes(int frames) {
        Due.is(name + ": make()", x.make(), frames);
        Due.is(name + ": fault() of make()", x.fault(), 0);
        return this;
    }

    /** make() finds that FAULT OF CODE at that PLACE. */
    Trial faulty(int fault, int place) {
        Due.is(name + ": make()", x.make(), -10 - place);
        Due.is(name + ": fault() of make()", x.fault(), fault);
        Due.is(name + ": nothing is MADE", x.judge(), ClassFrames.STATE);
        return this;
    }

    /** Kinds of LOCALS as digits; those behind them are TOP. */
    Trial locals(int at, String kinds) {
        for (int i = 0; i < 8; i++) {
            Due.is(name + ": kind(" + at + ", " + i + ")", x.kind(at, i), i < kinds.length() ? kinds.charAt(i) - '0' : 0);
        }
        return this;
    }

    Trial stack(int at, String kinds) {
        Due.is(name + ": size(" + at + ")", x.size(at), kinds.length());
        for (int i = 0; i < kinds.length(); i++) {
            Due.is(name + ": kind(" + at + ", " + (8 + i) + ")", x.kind(at, 8 + i), kinds.charAt(i) - '0');
        }
        Due.is(name + ": kind() behind the STACK", x.kind(at, 8 + kinds.length()), ClassFrames.NONE);
        return this;
    }

    Trial dead(int at) {
        Due.is(name + ": size(" + at + ") of a DEAD one", x.size(at), ClassFrames.NONE);
        for (int i = -1; i < 15; i++) {
            Due.is(name + ": kind(" + at + ", " + i + ") of a DEAD one", x.kind(at, i), ClassFrames.NONE);
        }
        return this;
    }

    /** All that frame(f, ..) tells, and nothing behind it. */
    Trial frame(int f, int place, String locals, String stack) {
        Due.is(name + ": PLACE of FRAME " + f, x.frame(f, 0), place);
        Due.is(name + ": LOCALS of FRAME " + f, x.frame(f, 1), locals.length());
        Due.is(name + ": STACK of FRAME " + f, x.frame(f, 2), stack.length());
        String kinds = locals + stack;
        for (int i = 0; i < kinds.length(); i++) {
            Due.is(name + ": frame(" + f + ", " + (3 + i) + ")", x.frame(f, 3 + i), kinds.charAt(i) - '0');
        }
        Due.is(name + ": frame() behind the last kind", x.frame(f, 3 + kinds.length()), ClassFrames.NONE);
        return this;
    }

    /** The PLACES of all FRAMES. */
    Trial framesAt(int... places) {
        makes(places.length);
        for (int f = 0; f < places.length; f++) {
            Due.is(name + ": PLACE of FRAME " + f, x.frame(f, 0), places[f]);
        }
        Due.is(name + ": count(3)", x.count(3), places.length);
        Due.is(name + ": no FRAME more", x.frame(places.length, 0), ClassFrames.NONE);
        return this;
    }

    Trial plant(int f, int i, int kind) {
        int before = x.frame(f, 3 + i);
        Due.is(name + ": plant(" + f + ", " + i + ", " + kind + ")", x.plant(f, i, kind), before);
        Due.is(name + ": planted", x.frame(f, 3 + i), before < 0 ? before : kind);
        return this;
    }

    Trial fits() {
        Due.is(name + ": judge()", x.judge(), 1);
        return this;
    }

    Trial refusedAt(int place) {
        Due.is(name + ": judge()", x.judge(), -10 - place);
        return this;
    }

    Trial bytes(int... want) {
        Due.bytes(name, x, want);
        return this;
    }

    /** run(300) RETURNED with that topmost. */
    Trial returns(long kind, long number) {
        Due.is(name + ": run(300)", x.run(300), 0);
        Due.is(name + ": fault() of run()", x.fault(), 0);
        Due.is(name + ": told(0)", x.told(0), kind);
        Due.is(name + ": told(1)", x.told(1), number);
        Due.is(name + ": told(4)", x.told(4), 0);
        return this;
    }

    /** No HANDLER took what run(300) threw there. */
    Trial throwsAt(int place, long code) {
        Due.is(name + ": run(300)", x.run(300), 1);
        Due.is(name + ": fault() of run()", x.fault(), 0);
        Due.is(name + ": told(0)", x.told(0), ClassFrames.NONE);
        Due.is(name + ": told(1)", x.told(1), 0);
        Due.is(name + ": told(2)", x.told(2), place);
        Due.is(name + ": told(4)", x.told(4), code);
        return this;
    }

    /** run(300) ends by that FAULT OF CODE at that PLACE. */
    Trial endsAt(int fault, int place) {
        Due.is(name + ": run(300)", x.run(300), -10 - place);
        Due.is(name + ": fault() of run()", x.fault(), fault);
        Due.is(name + ": told(0)", x.told(0), ClassFrames.NONE);
        Due.is(name + ": told(1)", x.told(1), 0);
        Due.is(name + ": told(2)", x.told(2), place);
        Due.is(name + ": told(4)", x.told(4), 0);
        return this;
    }

    Trial told(int what, long due) {
        Due.is(name + ": told(" + what + ")", x.told(what), due);
        return this;
    }

    /** All that can be asked without a change, so that what a refused call leaves can be compared. */
    List<Long> all() {
        List<Long> answers = new ArrayList<>();
        answers.add((long) x.fault());
        answers.add((long) x.judge());
        for (int what = -1; what <= 6; what++) {
            answers.add((long) x.count(what));
            answers.add(x.told(what));
        }
        for (int at = 0; at < x.count(0); at++) {
            answers.add((long) x.size(at));
            for (int i = 0; i < 14; i++) {
                answers.add((long) x.kind(at, i));
            }
        }
        for (int f = 0; f <= x.count(3); f++) {
            for (int what = 0; what < 17; what++) {
                answers.add((long) x.frame(f, what));
            }
        }
        int value = 0;
        for (int i = 0; value >= 0; i++) {
            value = Due.byteOrThrown(x, i);
            answers.add((long) value);
        }
        for (int i = 0; i < 8; i++) {
            long v = x.argument(i, 0);
            x.argument(i, v);
            answers.add(v);
        }
        return answers;
    }
}
