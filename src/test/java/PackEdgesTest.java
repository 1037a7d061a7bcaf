import java.util.ArrayList;
import java.util.Arrays;
import java.util.List;

/** The edges of PACKED: every number of LOCALS behind every other, STACKS of 0, 1 and more entries, distances; promises 12 and 13. */
public final class PackEdgesTest {
    public static void main(String[] args) {
        everyTwo(1);
        everyTwo(2);
        stacks();
        laterFrames();
        distances();
        entryBytes();
        countsWithoutHalves();
        outsideBytes();
        packedLatest();
        Due.end();
    }

    private static int[] row(List<Integer> bytes) {
        int[] all = new int[bytes.size()];
        for (int i = 0; i < all.length; i++) {
            all[i] = bytes.get(i);
        }
        return all;
    }

    /** "LOCALS without the last 1 to 3 entries .. or 1 to 3 entries more .. Else 255": from each number of PARAMETERS to each of LOCALS. */
    private static void everyTwo(int kind) {
        int most = kind == 2 ? 4 : 8;
        for (int ahead = 0; ahead <= most; ahead++) {
            for (int now = 0; now <= most; now++) {
                int[] parameters = new int[ahead];
                Arrays.fill(parameters, kind);
                StringBuilder code = new StringBuilder("1; 25 END; ");
                int stored = 0;
                for (int k = now; k < ahead; k++) {
                    code.append("3; 9 ").append(k * kind).append("; ");
                    stored += 2;
                }
                for (int k = ahead; k < now; k++) {
                    code.insert(0, kind + "; 9 " + k * kind + "; ");
                    stored += 2;
                }
                int end = stored + 2;
                Trial t = new Trial(kind + ": " + ahead + ", then " + now, code.toString().replace("END", "" + end) + "23", parameters).makes(1);
                t.frame(0, end, (kind == 2 ? "23" : "1").repeat(now), "").fits().bytes(row(due(ahead, now, kind == 2 ? 4 : 1, end)));
            }
        }
    }

    private static List<Integer> due(int ahead, int now, int entry, int distance) {
        List<Integer> bytes = new ArrayList<>();
        int more = now - ahead;
        if (more == 0) {
            bytes.add(distance);
        } else if (more >= -3 && more <= 3) {
            bytes.addAll(List.of(251 + more, 0, distance));
        } else {
            bytes.addAll(List.of(255, 0, distance, 0, now));
        }
        for (int i = more <= 3 && more >= -3 ? ahead : 0; more != 0 && i < now; i++) {
            bytes.add(entry);
        }
        if (more < -3 || more > 3) {
            bytes.addAll(List.of(0, 0));
        }
        return bytes;
    }

    /** "Like LOCALS, a STACK of one entry: 64 and the distance, that": a COUNT is one entry, two others are two. */
    private static void stacks() {
        new Trial("one entry", "3; 24 2; 23", 1).makes(1).bytes(66, 5);
        new Trial("a COUNT is one entry", "2; 24 2; 23", 1).makes(1).bytes(66, 4);
        new Trial("two entries", "3; 3; 24 3; 23", 1).makes(1).bytes(255, 0, 3, 0, 1, 1, 0, 2, 5, 5);
        new Trial("a COUNT and one more", "2; 3; 24 3; 23", 1).makes(1).bytes(255, 0, 3, 0, 1, 1, 0, 2, 4, 5);
        new Trial("one more and a COUNT", "3; 2; 24 3; 23", 1).makes(1).bytes(255, 0, 3, 0, 1, 1, 0, 2, 5, 4);
        new Trial("three COUNTS", "2; 2; 2; 24 4; 23").makes(1).bytes(255, 0, 4, 0, 0, 0, 3, 4, 4, 4);
        new Trial("six entries", Trial.times(6, "1") + "24 7; 23").makes(1).bytes(255, 0, 7, 0, 0, 0, 6, 1, 1, 1, 1, 1, 1);
        new Trial("one entry, one LOCAL more", "1; 9 0; 3; 24 4; 23").makes(1).bytes(255, 0, 4, 0, 1, 1, 0, 1, 5);
        new Trial("one entry, one LOCAL less", "3; 1; 25 5; 3; 9 0; 23", 1).makes(1).bytes(255, 0, 5, 0, 0, 0, 1, 5);
        new Trial("one entry, another LOCAL", "3; 9 0; 3; 24 4; 23", 1).makes(1).bytes(255, 0, 4, 0, 1, 5, 0, 1, 5);
        new Trial("no entry, another LOCAL", "3; 9 0; 24 3; 23", 1).makes(1).bytes(255, 0, 3, 0, 1, 5, 0, 0);
        new Trial("one more, another LOCAL", "3; 9 0; 3; 9 1; 24 5; 23", 1).makes(1).bytes(255, 0, 5, 0, 2, 5, 5, 0, 0);
        new Trial("one less, another LOCAL", "3; 9 0; 1; 25 6; 3; 9 1; 23", 1, 1).makes(1).bytes(255, 0, 6, 0, 1, 5, 0, 0);
    }

    /** "of others their PLACE less that of the one ahead less 1", "like LOCALS (of the FRAME ahead; of the first: PARAMETERS)". */
    private static void laterFrames() {
        new Trial("like the FRAME ahead, not PARAMETERS", "3; 9 0; 24 3; 24 4; 23", 1).makes(2).bytes(255, 0, 3, 0, 1, 5, 0, 0, 0);
        new Trial("like PARAMETERS, not the FRAME ahead", "3; 9 0; 24 3; 1; 9 0; 24 6; 23", 1).makes(2)
                .bytes(255, 0, 3, 0, 1, 5, 0, 0, 255, 0, 2, 0, 1, 1, 0, 0);
        new Trial("one more, then one more", "1; 9 0; 24 3; 1; 9 1; 24 6; 23").makes(2).bytes(252, 0, 3, 1, 252, 0, 2, 1);
        new Trial("behind one with a STACK", "1; 9 0; 3; 24 4; 10; 24 6; 23").makes(2).bytes(255, 0, 4, 0, 1, 1, 0, 1, 5, 1);
        new Trial("a HALF more is no entry more", "2; 9 0; 24 3; 1; 9 2; 24 6; 23").makes(2).bytes(252, 0, 3, 4, 252, 0, 2, 1);
        new Trial("one next to the other", "24 1; 24 2; 24 3; 23").makes(3).bytes(1, 0, 0);
        new Trial("the first at 0", "0; 24 0").makes(1).bytes(0);
        new Trial("the first at 0, the next at 1", "24 1; 24 0").makes(2).bytes(0, 0);
    }

    /** The largest distance is 59, of the first one; 58 of others. */
    private static void distances() {
        new Trial("59", "24 59; " + Trial.times(59, "23")).makes(1).bytes(59);
        new Trial("59, one entry", "3; 24 59; " + Trial.times(58, "23")).makes(1).bytes(123, 5);
        new Trial("59, one more", "3; 9 0; 24 59; " + Trial.times(57, "23")).makes(1).bytes(252, 0, 59, 5);
        new Trial("59, one less", "3; 9 0; 1; 25 59; " + Trial.times(56, "23"), 1).makes(1).bytes(255, 0, 59, 0, 1, 5, 0, 0);
        new Trial("0, then 58", "1; 27 0 59; " + Trial.times(58, "23")).makes(2).bytes(0, 58);
        new Trial("1, then 57", "24 1; 24 59; " + Trial.times(58, "23")).makes(2).bytes(1, 57);
        new Trial("a HANDLER's at 59", "23; " + Trial.times(59, "23")).handler(0, 1, 59, 8).makes(1).bytes(123, 7, 0, 8);
    }

    /** "An entry is a kind's byte: TOP 0, INT 1, COUNT .. 4, NIL 5, others 7, 0, the kind": in LOCALS and on the STACK. */
    private static void entryBytes() {
        int[][] due = {{0}, {1}, {4}, {7, 0, 3}, {5}, {7, 0, 5}, {7, 0, 6}, {7, 0, 7}, {7, 0, 8}};
        for (int kind = 0; kind <= 8; kind++) {
            List<Integer> more = new ArrayList<>(List.of(252, 0, 3));
            List<Integer> top = new ArrayList<>(List.of(66));
            for (int one : due[kind]) {
                more.add(one);
                top.add(one);
            }
            new Trial("LOCALS, " + kind, "3; 9 0; 24 3; 23").makes(1).plant(0, 0, kind).bytes(row(more));
            new Trial("STACK, " + kind, "3; 24 2; 23").makes(1).plant(0, 0, kind).bytes(row(top));
        }
        new Trial("MADE of each kind", "24 1; 23", 1, 5, 6, 7, 8, 2).makes(1).bytes(1);
        new Trial("one behind each kind", "3; 9 7; 24 3; 23", 1, 5, 6, 7, 8, 2).makes(1).bytes(252, 0, 3, 5);
        new Trial("each kind on the STACK", "3; 4; 5; 6; 1; 7; 24 7; 23").makes(1)
                .bytes(255, 0, 7, 0, 0, 0, 5, 5, 7, 0, 5, 7, 0, 7, 7, 0, 8, 7, 0, 6);
    }

    /** "COUNT (with its HALF, if that is behind it) 4": planted ones without it are an entry, too; a HALF alone is one of its own. */
    private static void countsWithoutHalves() {
        new Trial("without its HALF", "24 1; 23", 2).makes(1).plant(0, 1, 1).bytes(252, 0, 1, 1);
        new Trial("a HALF without its COUNT", "24 1; 23", 2).makes(1).plant(0, 0, 1).bytes(255, 0, 1, 0, 2, 1, 7, 0, 3, 0, 0);
        new Trial("a COUNT, a COUNT and its HALF", "24 1; 23", 1, 2).makes(1).plant(0, 0, 2).bytes(255, 0, 1, 0, 2, 4, 4, 0, 0);
        new Trial("two HALVES behind a COUNT", "24 1; 23", 2, 1).makes(1).plant(0, 2, 3).bytes(255, 0, 1, 0, 2, 4, 7, 0, 3, 0, 0);
        new Trial("a COUNT at the end of the STACK", "1; 3; 24 3; 23").makes(1).plant(0, 1, 2).bytes(255, 0, 3, 0, 0, 0, 2, 1, 4);
        new Trial("two places become a COUNT", "1; 3; 24 3; 23").makes(1).plant(0, 0, 2).plant(0, 1, 3).bytes(67, 4);
        new Trial("a COUNT becomes two", "2; 24 2; 23").makes(1).plant(0, 0, 1).plant(0, 1, 1).bytes(255, 0, 2, 0, 0, 0, 2, 1, 1);
        new Trial("a COUNT ends LOCALS, a HALF begins the STACK", "1; 24 2; 23", 1).makes(1).plant(0, 0, 2).plant(0, 1, 3)
                .bytes(255, 0, 2, 0, 1, 4, 0, 1, 7, 0, 3);
        new Trial("TOP planted as the last one", "24 1; 23", 1, 1).makes(1).plant(0, 1, 0).bytes(255, 0, 1, 0, 2, 1, 0, 0, 0);
    }

    /** "Byte i of what was PACKED latest (0 to 255). ArrayIndexOutOfBoundsException." */
    private static void outsideBytes() {
        Trial t = new Trial("three bytes", "1; 25 6; 3; 9 1; 3; 9 0; 23", 1, 1).makes(1).bytes(249, 0, 6);
        for (int i : new int[] {Integer.MIN_VALUE, -256, -3, -2, -1, 3, 4, 255, 256, 3000, Integer.MAX_VALUE}) {
            Due.is("out(" + i + ")", Due.byteOrThrown(t.x, i), -100);
        }
        Due.is("out(0), a byte above 127", t.x.out(0), 249);
        Due.is("out(2)", t.x.out(2), 6);
        Due.is("nothing PACKED ever", Due.byteOrThrown(new ClassFrames(), 0), -100);
        Due.is("nothing PACKED ever, -1", Due.byteOrThrown(new ClassFrames(), -1), -100);
    }

    /** "PACKED latest": as FRAMES stood then, till packed() again; of no FRAMES there are no bytes. */
    private static void packedLatest() {
        Trial t = new Trial("PACKED latest", "24 1; 23", 1).makes(1).bytes(1);
        t.plant(0, 0, 4);
        Due.is("planted, not PACKED", t.x.out(0), 1);
        t.bytes(255, 0, 1, 0, 1, 5, 0, 0);
        t.more("23");
        Due.is("nothing is MADE", t.x.packed(), ClassFrames.STATE);
        Due.is("out(7) of what was PACKED latest", t.x.out(7), 0);
        Due.is("out(8)", Due.byteOrThrown(t.x, 8), -100);
        t.makes(1);
        Due.is("made, not PACKED", t.x.out(0), 255);
        t.bytes(1);
        t.x.clear();
        t.more("23").makes(0);
        Due.is("no FRAMES, not PACKED", t.x.out(0), 1);
        t.bytes();
        Due.is("no FRAMES, PACKED", Due.byteOrThrown(t.x, 0), -100);
    }
}
