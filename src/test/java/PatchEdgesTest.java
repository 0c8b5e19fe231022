/** The edges of patching: part 3 of the document's terms, and promises 14 to 16; what is WHOLE, and who has a byte. */
public final class PatchEdgesTest {
    private static final int NONE = CueBoard.NONE, BAD = CueBoard.BAD, NO = CueBoard.NO;
    private static final int SORT = -13;
    private static final int MIN = Integer.MIN_VALUE, MAX = Integer.MAX_VALUE;
    private static final int[][] WIDTHS = {{1}, {1, 1}, {2, 2, 1}, {1, 1, 1}};
    private static final int[][] DIMMING = {{1}, {1, 0}, {0, 0, 1}, {1, 1, 1}};
    private static final int[] HEAT = {20, 20, 100, 60};
    private static final Check CHECK = new Check();
    private static final Edges EDGES = new Edges(CHECK);

    public static void main(String[] args) {
        placesToPatch();
        whatMayBePatched();
        unpatching();
        firming();
        wholeAtTheEnd();
        wholeInTheLastPlaces();
        pulledOrNeverTold();
        sharedBytes();
        sharedInPart();
        CHECK.end();
    }

    /** PATCHED to a LINE from a place on (0 .. 63). */
    private static void placesToPatch() {
        for (int f : new int[] {0, 1, 2, 3, 4, 7}) {
            EDGES.between("places 0 .. 63", Rigs.LIVELY, 1, 2, 0, 63, "patch", f, 1, 0);
        }
        EDGES.between("also where the LINE has fewer", Rigs.LIVELY, 1, 2, 0, 63, "patch", 2, 0, 0);
        EDGES.between("also where it is PULLED", Rigs.LIVELY, 1, 2, 0, 63, "patch", 2, 2, 0);
        EDGES.between("also where it was never told", Rigs.LIVELY, 1, 2, 0, 63, "patch", 2, 3, 0);
    }

    /** A FIXTURE that SHOWS: 1. BAD; SORT: it does not SHOW. */
    private static void whatMayBePatched() {
        for (int g = 5; g <= 6; g++) {
            EDGES.still("a GROUP", Rigs.LIVELY, SORT, "patch", g, 0, 0);
            EDGES.still("BAD ahead of SORT", Rigs.LIVELY, BAD, "patch", g, 4, 0);
            EDGES.still("BAD ahead of SORT", Rigs.LIVELY, BAD, "patch", g, -1, 0);
            EDGES.still("BAD ahead of SORT", Rigs.LIVELY, BAD, "patch", g, 0, 64);
            EDGES.still("BAD ahead of SORT", Rigs.LIVELY, BAD, "patch", g, 0, -1);
        }
        CueBoard x = new CueBoard();
        x.fixture(0, 0);
        for (int p : new int[] {0, 63}) {
            for (int l : new int[] {0, 3}) {
                CHECK.due("patch", x.patch(0, l, p), 1);
                CHECK.due("its LINE", x.about(0, 2), l);
                CHECK.due("its place", x.about(0, 3), p);
            }
        }
    }

    /** A FIXTURE is not PATCHED any more: 1. BAD; NO: it is not. */
    private static void unpatching() {
        for (int f : new int[] {0, 1, 2, 3, 4, 7}) {
            EDGES.taken("it is PATCHED", Rigs.LIVELY, 1, "unpatch", f);
        }
        Rigs.Rig none = x -> {
            Rigs.LIVELY.set(x);
            Rigs.all(x, "unpatch", new int[][] {{0}, {1}, {2}, {3}, {4}, {7}});
        };
        for (int f = 0; f < 8; f++) {
            EDGES.still("it is not", none, NO, "unpatch", f);
        }
        EDGES.still("a GROUP never is", Rigs.LIVELY, NO, "unpatch", 5);
        for (int f : new int[] {-1, 8, MIN, MAX}) {
            EDGES.still("no such FIXTURE", none, BAD, "unpatch", f);
        }
        CueBoard x = new CueBoard();
        x.fixture(0, 0);
        CHECK.due("never PATCHED", x.unpatch(0), NO);
        x.patch(0, 0, 0);
        x.patch(0, 1, 1);
        CHECK.due("PATCHED twice", x.unpatch(0), 1);
        CHECK.due("once is enough", x.unpatch(0), NO);
        CHECK.due("no LINE", x.about(0, 2), NONE);
        CHECK.due("no place", x.about(0, 3), NONE);
    }

    /** A FIXTURE is FIRM, or not: 1. BAD. */
    private static void firming() {
        for (int on = 0; on < 2; on++) {
            for (int f = 0; f < 8; f++) {
                EDGES.taken("any FIXTURE, also as it was", Rigs.LIVELY, 1, "firm", f, on);
            }
            for (int f : new int[] {-1, 8, MIN, MAX}) {
                EDGES.still("no such FIXTURE", Rigs.LIVELY, BAD, "firm", f, on);
            }
        }
        CueBoard x = new CueBoard();
        x.fixture(0, 0);
        for (int on : new int[] {0, 1, 1, 0, 0}) {
            x.firm(0, on == 1);
            CHECK.due("FIRM, or not", x.about(0, 4), on);
        }
        x.firm(0, true);
        x.patch(0, 0, 0);
        x.unpatch(0);
        CHECK.due("patching leaves it", x.about(0, 4), 1);
    }

    /** One FIXTURE of a KIND, all its bytes 200, 201 and so on, PATCHED at place p of LINE 0 that has n places. */
    private static CueBoard lit(int kind, int n, int p) {
        CueBoard x = new CueBoard();
        x.line(0, n);
        x.fixture(kind, 0);
        x.patch(0, 0, p);
        int next = 200;
        for (int c = 0; c < WIDTHS[kind].length; c++) {
            boolean wide = WIDTHS[kind][c] == 2;
            x.entry(0, 0, c, wide ? next * 256 + next + 1 : next, 0);
            next += WIDTHS[kind][c];
        }
        x.list(0, 0, 0);
        x.load(0, 0);
        x.go(0);
        x.tick(1);
        return x;
    }

    /** Its CHANNELS' bytes follow one another; one that is not WHOLE finds BEYOND, writes nothing, and has no HEAT. */
    private static void wholeAtTheEnd() {
        for (int kind = 0; kind < 4; kind++) {
            for (int n = 0; n <= 7; n++) {
                for (int p = 0; p <= 7; p++) {
                    whole("KIND " + kind + " at " + p + " of " + n, lit(kind, n, p), kind, n, p);
                }
            }
        }
    }

    private static void whole(String when, CueBoard x, int kind, int n, int p) {
        int[] bytes = new int[n];
        int beyond = 0;
        int heat = 0;
        int from = p;
        for (int c = 0; c < WIDTHS[kind].length; c++) {
            int behind = from + WIDTHS[kind][c];
            if (behind > n) {
                beyond++;
            } else {
                for (int i = from; i < behind; i++) {
                    bytes[i] = 200 + i - p;
                }
                heat += DIMMING[kind][c] * HEAT[kind] * (200 + from - p) / 255;
            }
            from = behind;
        }
        CHECK.found(when, x, 0, beyond, 0, 0, 0, 0);
        CHECK.bytes(when, x, 0, bytes);
        CHECK.due(when + ": heat", x.heat(0), heat);
    }

    /** The last places of 64. */
    private static void wholeInTheLastPlaces() {
        int[] spans = {1, 2, 5, 3};
        for (int kind = 0; kind < 4; kind++) {
            for (int p = 63; p >= 64 - spans[kind] - 1; p--) {
                whole("KIND " + kind + " at " + p + " of 64", lit(kind, 64, p), kind, 64, p);
            }
        }
        CueBoard x = lit(2, 64, 63);
        CHECK.due("half of PAN is not written", x.at(0, 63), 0);
        CHECK.due("none of its CHANNELS", x.found(2), 3);
    }

    /** One on a LINE that is PULLED, or was never told, finds NOTHING alone (each by CHANNELS). */
    private static void pulledOrNeverTold() {
        for (int kind = 0; kind < 4; kind++) {
            for (int p : new int[] {0, 1, 63}) {
                CueBoard x = lit(kind, 1, p);
                int channels = WIDTHS[kind].length;
                int beyond = x.found(2);
                x.pull(0);
                x.tick(1);
                CHECK.found("PULLED", x, channels, beyond, 0, 0, 0, 0);
                x.patch(0, 3, p);
                x.tick(2);
                CHECK.found("never told", x, 3 * channels, beyond, 0, 0, 0, 0);
                CHECK.due("no HEAT on what was never told", x.heat(3), 0);
                x.line(3, 64);
                x.tick(1);
                CHECK.due("told", x.found(1), 3 * channels);
                x.unpatch(0);
                x.pull(3);
                x.tick(1);
                CHECK.due("not PATCHED", x.found(1), 3 * channels);
            }
        }
    }

    /** DIMMERS 0 to 2 at 10, 11, 12, not yet PATCHED. */
    private static CueBoard three() {
        CueBoard x = new CueBoard();
        x.line(0, 5);
        for (int f = 0; f < 3; f++) {
            x.fixture(0, 0);
            x.entry(0, f, 0, 10 + f, 0);
        }
        x.list(0, 0, 0);
        x.load(0, 0);
        x.go(0);
        return x;
    }

    /** Of FIXTURES that share a byte the one that was PATCHED later has it (PATCHED anew: it is the latest). */
    private static void sharedBytes() {
        int[][] orders = {{0, 1, 2}, {2, 1, 0}, {1, 2, 0}, {0, 1, 0}, {0, 1, 2, 0, 1}, {2, 2, 1, 1, 2}};
        for (int[] order : orders) {
            CueBoard x = three();
            for (int f : order) {
                x.patch(f, 0, 4);
            }
            x.tick(1);
            CHECK.due("the latest of " + order.length, x.at(0, 4), 10 + order[order.length - 1]);
        }
        CueBoard x = three();
        x.patch(0, 0, 0);
        x.patch(1, 0, 0);
        x.unpatch(0);
        x.patch(0, 0, 0);
        x.tick(1);
        CHECK.due("behind unpatch it is the latest, too", x.at(0, 0), 10);
        x.unpatch(0);
        x.tick(1);
        CHECK.due("the one that is left", x.at(0, 0), 11);
        x.unpatch(1);
        x.tick(1);
        CHECK.due("none is left", x.at(0, 0), 0);
    }

    /** Bytes are shared one by one; one of no CHANNEL that is WHOLE leaves them to the other. */
    private static void sharedInPart() {
        CueBoard x = new CueBoard();
        x.line(0, 4);
        x.fixture(2, 0);
        x.fixture(3, 0);
        x.entry(0, 0, 0, 0x0102, 0);
        x.entry(0, 0, 1, 0x0304, 0);
        for (int c = 0; c < 3; c++) {
            x.entry(0, 1, c, 21 + c, 0);
        }
        x.list(0, 0, 0);
        x.load(0, 0);
        x.go(0);
        x.patch(0, 0, 0);
        x.patch(1, 0, 1);
        x.tick(1);
        CHECK.bytes("a SCREEN in a MOVER's bytes", x, 0, 1, 21, 22, 23);
        x.patch(0, 0, 0);
        x.tick(1);
        CHECK.bytes("the MOVER is the latest", x, 0, 1, 2, 3, 4);
        x.patch(0, 0, 1);
        x.tick(1);
        CHECK.bytes("TILT is not WHOLE, so BLUE stays", x, 0, 0, 1, 2, 23);
        x.patch(0, 0, 3);
        x.tick(1);
        CHECK.bytes("PAN is not WHOLE, so BLUE stays", x, 0, 0, 21, 22, 23);
    }
}
