/** The edges of CURVES: part 4 of the document's terms, and promises 17 to 19. */
public final class CurveEdgesTest {
    private static final int NONE = CueBoard.NONE, BAD = CueBoard.BAD, FULL = CueBoard.FULL;
    private static final int SORT = -13, HOLE = 0x7FC00000;
    private static final int MIN = Integer.MIN_VALUE, MAX = Integer.MAX_VALUE;
    private static final Check CHECK = new Check();
    private static final Edges EDGES = new Edges(CHECK);

    public static void main(String[] args) {
        curveNumbers();
        rising();
        finiteOrNoNumber();
        pointsAtMost();
        askedAtItsEnds();
        withoutPoints();
        beforeAndBehind();
        betweenNeighbours();
        floatsAtTheirEnds();
        holes();
        bentToBytes();
        holesWhileBent();
        whatMayBend();
        CHECK.end();
    }

    private static int bits(float y) {
        return Float.floatToRawIntBits(y);
    }

    /** CURVES 0 .. 3. */
    private static void curveNumbers() {
        EDGES.between("CURVES 0 .. 3", Rigs.NEW, 1, 0, 0, 3, "point", 0, 40, 0);
        EDGES.between("CURVES 0 .. 3, NONE: none", Rigs.LIVELY, 1, 2, NONE, 3, "bend", 3, 0, 0);
        EDGES.still("CURVES 0 .. 3", Rigs.NEW, bits(40), "curve", 0, 40);
        EDGES.still("CURVES 0 .. 3", Rigs.NEW, bits(40), "curve", 3, 40);
        for (int curve : new int[] {-1, 4, MIN, MAX}) {
            EDGES.still("BAD: 0", Rigs.LIVELY, 0, "curve", curve, 40);
            EDGES.still("no such CURVE", Rigs.LIVELY, BAD, "point", curve, 40, 0);
        }
    }

    /** x rising (0 .. 255). BAD: x (not above the last one). */
    private static void rising() {
        EDGES.between("x 0 .. 255", Rigs.NEW, 1, 1, 0, 255, "point", 2, 0, 0);
        EDGES.taken("just above the last one", Rigs.LIVELY, 4, "point", 0, 31, 0);
        EDGES.taken("the last there is", Rigs.LIVELY, 4, "point", 0, 255, 0);
        for (int x : new int[] {30, 29, 20, 10, 0, -1, 256, MIN, MAX}) {
            EDGES.still("not above the last one, or beyond", Rigs.LIVELY, BAD, "point", 0, x, 0);
        }
        EDGES.still("the first one's x", Rigs.LIVELY, BAD, "point", 1, 0, 0);
        EDGES.taken("just above it", Rigs.LIVELY, 2, "point", 1, 1, 0);
        EDGES.taken("another CURVE's x does not matter", Rigs.LIVELY, 1, "point", 2, 0, 0);
        Rigs.Rig ended = x -> x.call("point", 0, 255, 0);
        EDGES.still("none is above 255", ended, BAD, "point", 0, 255, 0);
        EDGES.still("none is above 255", ended, BAD, "point", 0, 256, 0);
    }

    /** y a float (finite, or no number). BAD: y endless. */
    private static void finiteOrNoNumber() {
        int[] taken = {0, 0x80000000, 1, 0x80000001, 0x7F7FFFFF, 0xFF7FFFFF, 0x7F800001, 0xFF800001, 0x7FFFFFFF, -1,
            HOLE, 0xFFC00000, 0x007FFFFF, 0x00800000};
        for (int y : taken) {
            EDGES.taken("finite, or no number", Rigs.LIVELY, 4, "point", 0, 40, y);
            EDGES.taken("finite, or no number", Rigs.NEW, 1, "point", 3, 0, y);
            CueBoard x = new CueBoard();
            x.point(1, 9, y);
            int want = (y & MAX) > 0x7F800000 ? HOLE : y;
            CHECK.due("at it", x.curve(1, 9), want);
            CHECK.due("before it", x.curve(1, 0), want);
            CHECK.due("behind it", x.curve(1, 255), want);
        }
        for (int y : new int[] {0x7F800000, 0xFF800000}) {
            EDGES.still("endless", Rigs.LIVELY, BAD, "point", 0, 40, y);
            EDGES.still("endless", Rigs.NEW, BAD, "point", 3, 0, y);
        }
    }

    /** POINTS, 8 at most. FULL. */
    private static void pointsAtMost() {
        EDGES.taken("an eighth", Rigs.POINTS_7, 8, "point", 3, 201, 0);
        EDGES.still("a ninth", Rigs.POINTS_8, FULL, "point", 3, 202, 0);
        EDGES.still("a ninth", Rigs.POINTS_8, FULL, "point", 3, 255, HOLE);
        EDGES.still("BAD ahead of FULL", Rigs.POINTS_8, BAD, "point", 3, 201, 0);
        EDGES.still("BAD ahead of FULL", Rigs.POINTS_8, BAD, "point", 3, 256, 0);
        EDGES.still("BAD ahead of FULL", Rigs.POINTS_8, BAD, "point", 3, -1, 0);
        EDGES.still("BAD ahead of FULL", Rigs.POINTS_8, BAD, "point", 3, 202, 0x7F800000);
        EDGES.taken("another CURVE", Rigs.POINTS_8, 1, "point", 2, 0, 0);
        EDGES.taken("another CURVE", Rigs.POINTS_8, 4, "point", 0, 31, 0);
        CueBoard x = new CueBoard();
        for (int i = 0; i < 8; i++) {
            CHECK.due("how many", x.point(2, 31 * i, bits(i)), i + 1);
        }
        CHECK.due("the last one counts", x.curve(2, 255), bits(7));
        CHECK.due("the last one counts", x.curve(2, 217), bits(7));
        CHECK.due("before it", x.curve(2, 216), bits(6 + 1f * (30f / 31f)));
    }

    /** The 32 bits of a CURVE at v (0 .. 255). BAD: 0. */
    private static void askedAtItsEnds() {
        for (int v : new int[] {-1, 256, MIN, MAX}) {
            for (int curve = 0; curve < 4; curve++) {
                EDGES.still("BAD: 0", Rigs.LIVELY, 0, "curve", curve, v);
            }
        }
        EDGES.still("the first v", Rigs.LIVELY, 0x43480000, "curve", 1, 0);
        EDGES.still("the last v", Rigs.LIVELY, 0x43480000, "curve", 1, 255);
    }

    /** Without POINTS v itself. */
    private static void withoutPoints() {
        CueBoard x = new CueBoard();
        for (int v = 0; v < 256; v++) {
            CHECK.due("v itself", x.curve(3, v), bits(v));
        }
    }

    /** Before the first that one's y, behind the last that one's; at one its y. */
    private static void beforeAndBehind() {
        CueBoard x = new CueBoard();
        x.point(0, 1, bits(-5f));
        x.point(0, 254, bits(500f));
        CHECK.due("before the first", x.curve(0, 0), bits(-5f));
        CHECK.due("at the first", x.curve(0, 1), bits(-5f));
        CHECK.due("right behind it", x.curve(0, 2), bits(-5f + 505f * (1f / 253f)));
        CHECK.due("right before the last", x.curve(0, 253), bits(-5f + 505f * (252f / 253f)));
        CHECK.due("at the last", x.curve(0, 254), bits(500f));
        CHECK.due("behind the last", x.curve(0, 255), bits(500f));
        CueBoard y = new CueBoard();
        y.point(0, 0, bits(3f));
        y.point(0, 255, bits(4f));
        CHECK.due("from the first v", y.curve(0, 0), bits(3f));
        CHECK.due("to the last v", y.curve(0, 255), bits(4f));
        CHECK.due("between", y.curve(0, 51), bits(3f + 1f * (51f / 255f)));
    }

    /** POINTS right beside one another have nothing between them; floats wrap nowhere, but get endless. */
    private static void betweenNeighbours() {
        CueBoard x = new CueBoard();
        x.point(0, 7, bits(1f));
        x.point(0, 8, bits(2f));
        x.point(0, 9, bits(4f));
        CHECK.due("at 7", x.curve(0, 7), bits(1f));
        CHECK.due("at 8", x.curve(0, 8), bits(2f));
        CHECK.due("at 9", x.curve(0, 9), bits(4f));
        CueBoard y = new CueBoard();
        y.point(1, 0, 0xFF7FFFFF);
        y.point(1, 2, 0x7F7FFFFF);
        y.point(1, 4, 0xFF7FFFFF);
        CHECK.due("the next y less y is endless", y.curve(1, 1), 0x7F800000);
        CHECK.due("below 0, too", y.curve(1, 3), 0xFF800000);
        CHECK.due("not at a POINT", y.curve(1, 2), 0x7F7FFFFF);
        CueBoard z = new CueBoard();
        z.point(2, 0, 0x80000000);
        z.point(2, 2, 0);
        z.point(2, 4, 1);
        CHECK.due("0 below 0", z.curve(2, 0), 0x80000000);
        CHECK.due("0 and 0", z.curve(2, 1), 0);
        CHECK.due("half of the least is 0", z.curve(2, 3), 0);
        CHECK.due("the least", z.curve(2, 4), 1);
    }

    /** Each act as a float: of the least, the greatest, and those where floats change their step. */
    private static void floatsAtTheirEnds() {
        int[] ys = {0, 0x80000000, 1, 0x80000001, 3, 0x80000003, 0x007FFFFF, 0x807FFFFF, 0x00800000, 0x80800000,
            0x00800001, 0x4B7FFFFF, 0x4B800000, 0x4B800001, 0xCB800001, 0x7E800000, 0x7F000000, 0x7F7FFFFE, 0x7F7FFFFF,
            0xFF7FFFFF, 0xFF000001};
        for (int a : ys) {
            for (int b : ys) {
                CueBoard x = new CueBoard();
                x.point(3, 100, a);
                x.point(3, 104, b);
                float y = Float.intBitsToFloat(a);
                float next = Float.intBitsToFloat(b);
                for (int v = 1; v < 4; v++) {
                    float want = y + (next - y) * ((float) v / 4f);
                    String when = Integer.toHexString(a) + " to " + Integer.toHexString(b) + ", " + v + " of 4";
                    CHECK.due(when, x.curve(3, 100 + v), bits(want));
                }
            }
        }
        CueBoard x = new CueBoard();
        x.point(0, 0, 0x80000000);
        x.point(0, 2, 0x80000001);
        CHECK.due("0 below 0, and half of the least below it", x.curve(0, 1), 0x80000000);
    }

    /** Where a y that is wanted is no number there is a HOLE: 0x7FC00000. */
    private static void holes() {
        CueBoard x = new CueBoard();
        x.point(0, 10, 0xFFFFFFFF);
        x.point(0, 20, bits(2f));
        x.point(0, 30, bits(3f));
        x.point(0, 40, 0x7F800001);
        x.point(0, 50, bits(5f));
        x.point(0, 60, HOLE);
        int[] in = {0, 9, 10, 11, 19, 31, 39, 40, 41, 49, 51, 60, 61, 255};
        for (int v : in) {
            CHECK.due("a HOLE at " + v, x.curve(0, v), HOLE);
        }
        CHECK.due("none at 20", x.curve(0, 20), bits(2f));
        CHECK.due("none at 21", x.curve(0, 21), bits(2f + 1f * (1f / 10f)));
        CHECK.due("none at 29", x.curve(0, 29), bits(2f + 1f * (9f / 10f)));
        CHECK.due("none at 30", x.curve(0, 30), bits(3f));
        CHECK.due("none at 50", x.curve(0, 50), bits(5f));
    }

    /** The RATE of a STROBE on LINE 0, place 1, at v, BENT by CURVE 0. */
    private static CueBoard rateAt(int v) {
        CueBoard x = new CueBoard();
        x.line(0, 2);
        x.fixture(1, 0);
        x.patch(0, 0, 0);
        x.entry(0, 0, 1, v, 0);
        x.list(0, 0, 0);
        x.load(0, 0);
        x.go(0);
        x.bend(0, 1, 0);
        return x;
    }

    /** BENT it is that, plus 0.5 (as a float), cut toward 0, at least 0, at most 255. */
    private static void bentToBytes() {
        float[] ys = {0f, 0.4999f, 0.5f, 1.4999f, 1.5f, 254.4999f, 254.5f, 255f, 255.4999f, 255.5f, 256f, 1e20f,
            Float.MAX_VALUE, -0.5f, -0.5001f, -1.5f, -1.51f, -255f, -Float.MAX_VALUE, Float.MIN_VALUE, 2147483648f};
        int[] want = {0, 0, 1, 1, 2, 254, 255, 255, 255, 255, 255, 255, 255, 0, 0, 0, 0, 0, 0, 0, 255};
        for (int i = 0; i < ys.length; i++) {
            CueBoard x = rateAt(7);
            x.point(0, 7, bits(ys[i]));
            x.tick(1);
            CHECK.due("BENT by " + ys[i], x.at(0, 1), want[i]);
        }
        // As a float this is 0.5 with 0.5 less a little: 1.
        CueBoard x = rateAt(7);
        x.point(0, 7, 0x3EFFFFFF);
        x.tick(1);
        CHECK.due("0.49999997 plus 0.5, as floats", x.at(0, 1), 1);
        CueBoard y = rateAt(1);
        y.point(0, 0, 0xFF7FFFFF);
        y.point(0, 2, 0x7F7FFFFF);
        y.tick(1);
        CHECK.due("endless", y.at(0, 1), 255);
        CueBoard z = rateAt(1);
        z.point(0, 0, 0x7F7FFFFF);
        z.point(0, 2, 0xFF7FFFFF);
        z.tick(1);
        CHECK.due("endless below 0", z.at(0, 1), 0);
        for (int v : new int[] {0, 1, 254, 255}) {
            CueBoard w = rateAt(v);
            w.tick(1);
            CHECK.due("without POINTS", w.at(0, 1), v);
        }
    }

    /** In a HOLE what it was when it was BENT last (0 before; what it was stays meanwhile). */
    private static void holesWhileBent() {
        CueBoard x = rateAt(7);
        x.point(0, 0, HOLE);
        x.tick(3);
        CHECK.due("0 before", x.at(0, 1), 0);
        x.bend(0, 1, NONE);
        x.tick(1);
        CHECK.due("not BENT", x.at(0, 1), 7);
        x.bend(0, 1, 0);
        x.tick(1);
        CHECK.due("what was not BENT does not count", x.at(0, 1), 0);
        x.bend(0, 1, 1);
        x.point(1, 0, bits(200f));
        CHECK.due("not before a TICK", x.at(0, 1), 0);
        x.bend(0, 1, 0);
        x.tick(1);
        CHECK.due("it had no TICK", x.at(0, 1), 0);
        x.bend(0, 1, 1);
        x.tick(1);
        CHECK.due("BENT", x.at(0, 1), 200);
        x.unpatch(0);
        x.bend(0, 1, 2);
        x.tick(5);
        x.patch(0, 0, 0);
        x.bend(0, 1, 0);
        x.tick(2);
        CHECK.due("what it was stays meanwhile", x.at(0, 1), 200);
        x.pull(0);
        x.bend(0, 1, 2);
        x.tick(1);
        x.plug(0);
        x.bend(0, 1, 0);
        x.tick(1);
        CHECK.due("on a PULLED LINE it is PATCHED, and so BENT", x.at(0, 1), 7);
        beforeItIsCut();
    }

    /** What it was is what it was BENT to, whatever GRAND, MOST, HEAT and BLACKOUT do. */
    private static void beforeItIsCut() {
        CueBoard x = new CueBoard();
        x.line(0, 3);
        x.fixture(3, 100);
        x.patch(0, 0, 0);
        x.bend(0, 0, 0);
        x.point(0, 0, bits(250f));
        x.point(0, 1, HOLE);
        x.entry(0, 0, 0, 9, 0);
        x.list(0, 0, 0);
        x.load(0, 0);
        x.limit(0, 10);
        x.blackout(true);
        x.tick(1);
        CHECK.due("cut, and blacked out", x.at(0, 0), 0);
        CHECK.due("HEAT as cut", x.heat(0), 10);
        x.blackout(false);
        x.limit(0, 1000);
        x.go(0);
        x.tick(1);
        CHECK.due("in the HOLE what it was BENT to, at most MOST", x.at(0, 0), 200);
    }

    /** A CHANNEL that is not wide may have a CURVE. BAD; SORT: no such CHANNEL, or it is wide. */
    private static void whatMayBend() {
        Rigs.Rig rig = Rigs.LIVELY;
        for (int curve : new int[] {-2, 4, MIN, MAX}) {
            EDGES.still("no such CURVE", rig, BAD, "bend", 0, 0, curve);
            EDGES.still("BAD ahead of SORT", rig, BAD, "bend", 0, 1, curve);
            EDGES.still("BAD ahead of SORT", rig, BAD, "bend", 2, 0, curve);
            EDGES.still("BAD ahead of SORT", rig, BAD, "bend", 5, 0, curve);
        }
        EDGES.taken("none, where none was", rig, 1, "bend", 0, 0, NONE);
        EDGES.taken("none", rig, 1, "bend", 1, 1, NONE);
        EDGES.still("PAN is wide", rig, SORT, "bend", 2, 0, 0);
        EDGES.still("TILT is wide", rig, SORT, "bend", 2, 1, NONE);
        EDGES.taken("LEVEL is not", rig, 1, "bend", 2, 2, 0);
        EDGES.still("no such FIXTURE", rig, BAD, "bend", 8, 0, 0);
        EDGES.still("no such FIXTURE", rig, BAD, "bend", -1, 0, NONE);
    }
}
