/** Promises 17 to 19: point, curve, bend. */
public final class CurvesTest {
    private static final int NONE = CueBoard.NONE, BAD = CueBoard.BAD, FULL = CueBoard.FULL;
    private static final int SORT = -13, HOLE = 0x7FC00000;
    private static final Check CHECK = new Check();

    public static void main(String[] args) {
        points();
        curves();
        floatsOfAllSizes();
        bending();
        bentInHoles();
        CHECK.end();
    }

    private static int bits(float y) {
        return Float.floatToRawIntBits(y);
    }

    private static void points() {
        CueBoard x = new CueBoard();
        CHECK.due("no such CURVE", x.point(4, 0, 0), BAD);
        CHECK.due("no such CURVE", x.point(-1, 0, 0), BAD);
        CHECK.due("x below 0", x.point(0, -1, 0), BAD);
        CHECK.due("x above 255", x.point(0, 256, 0), BAD);
        CHECK.due("endless", x.point(0, 0, 0x7F800000), BAD);
        CHECK.due("endless", x.point(0, 0, 0xFF800000), BAD);
        CHECK.due("no number is fine", x.point(0, 5, 0xFFFFFFFF), 1);
        CHECK.due("not above", x.point(0, 5, 0), BAD);
        CHECK.due("not above", x.point(0, 4, 0), BAD);
        CHECK.due("above", x.point(0, 6, 0x7F7FFFFF), 2);
        for (int i = 3; i <= 7; i++) {
            CHECK.due("POINT " + i, x.point(0, 4 + i, bits(i)), i);
        }
        CHECK.due("POINT 8", x.point(0, 255, 0xFF7FFFFF), 8);
        CHECK.due("none is above 255", x.point(0, 255, 0), BAD);
        CueBoard y = new CueBoard();
        for (int i = 1; i <= 8; i++) {
            CHECK.due("POINT " + i, y.point(3, i - 1, 0), i);
        }
        CHECK.due("FULL", y.point(3, 8, 0), FULL);
        CHECK.due("BAD ahead of FULL", y.point(3, 7, 0), BAD);
        CHECK.due("BAD ahead of FULL", y.point(3, 8, 0x7F800000), BAD);
        CHECK.due("another CURVE", y.point(2, 0, 0), 1);
        CHECK.due("calls in THE BOOK", y.told(2), 9);
    }

    private static void curves() {
        CueBoard x = new CueBoard();
        CHECK.due("BAD", x.curve(4, 1), 0);
        CHECK.due("BAD", x.curve(-1, 1), 0);
        CHECK.due("BAD", x.curve(0, 256), 0);
        CHECK.due("BAD", x.curve(0, -1), 0);
        for (int v = 0; v < 256; v += 5) {
            CHECK.due("without POINTS at " + v, x.curve(0, v), bits(v));
        }
        x.point(0, 10, bits(0.1f));
        for (int v : new int[] {0, 9, 10, 11, 255}) {
            CHECK.due("one POINT, at " + v, x.curve(0, v), bits(0.1f));
        }
        x.point(0, 20, bits(-7.3f));
        x.point(0, 30, 0x7F800001);
        x.point(0, 200, bits(1e30f));
        for (int v = 0; v < 256; v++) {
            CHECK.due("four POINTS, at " + v, x.curve(0, v), fourPoints(v));
        }
        CueBoard y = new CueBoard();
        y.point(1, 3, 0xFFC12345);
        CHECK.due("before a HOLE", y.curve(1, 0), HOLE);
        CHECK.due("behind a HOLE", y.curve(1, 255), HOLE);
    }

    private static int fourPoints(int v) {
        if (v <= 10) {
            return bits(0.1f);
        }
        if (v <= 20) {
            float part = (float) (v - 10) / 10f;
            return bits(v == 20 ? -7.3f : 0.1f + (-7.3f - 0.1f) * part);
        }
        return v < 200 ? HOLE : bits(1e30f);
    }

    /** Pairs of POINTS whose floats are as small, large and uneven as may be. */
    private static void floatsOfAllSizes() {
        int[] ys = {
            0, 0x80000000, 1, 0x80000001, 2, 0x80000002, 0x007FFFFF, 0x807FFFFF, 0x00800000, 0x80800000, 0x00800001,
            0x7F7FFFFF, 0xFF7FFFFF, 0x7F000000, 0x3F800000, 0x3F7FFFFF, 0xBF800001, 0x4B7FFFFF, 0x4B800000,
            0x4B800001, 0xCB000000, 0x437F0000, 0x358637BD, 0x12345678, 0x92345678, 0x00012345,
        };
        for (int a : ys) {
            for (int b : ys) {
                pair(a, b, 0, 255);
                pair(a, b, 17, 20);
            }
        }
    }

    private static void pair(int a, int b, int x0, int x1) {
        CueBoard x = new CueBoard();
        x.point(2, x0, a);
        x.point(2, x1, b);
        float y0 = Float.intBitsToFloat(a);
        float y1 = Float.intBitsToFloat(b);
        for (int v = x0 + 1; v < x1; v += 1 + (x1 - x0) / 9) {
            float want = y0 + (y1 - y0) * ((float) (v - x0) / (float) (x1 - x0));
            CHECK.due(Integer.toHexString(a) + " to " + Integer.toHexString(b) + " at " + v, x.curve(2, v), bits(want));
        }
        CHECK.due("at the first", x.curve(2, x0), a);
        CHECK.due("at the last", x.curve(2, x1), b);
    }

    /** A STROBE on LINE 0 (0 LEVEL, 1 RATE), both set by PLAYBACK 0 to v, not yet bent. */
    private static CueBoard strobeAt(int v) {
        CueBoard x = new CueBoard();
        x.line(0, 2);
        x.fixture(1, 0);
        x.patch(0, 0, 0);
        x.entry(0, 0, 0, v, 0);
        x.entry(0, 0, 1, v, 0);
        x.list(0, 0, 0);
        x.load(0, 0);
        x.go(0);
        return x;
    }

    private static void bending() {
        CueBoard x = strobeAt(100);
        x.fixture(2, 0);
        x.group(0, 1);
        CHECK.due("no such FIXTURE", x.bend(3, 0, 0), BAD);
        CHECK.due("no such FIXTURE", x.bend(-1, 0, 0), BAD);
        CHECK.due("no such channel", x.bend(0, 3, 0), BAD);
        CHECK.due("no such channel", x.bend(0, -1, 0), BAD);
        CHECK.due("no such CURVE", x.bend(0, 0, 4), BAD);
        CHECK.due("no such CURVE", x.bend(0, 0, -2), BAD);
        CHECK.due("BAD ahead of SORT", x.bend(1, 0, 4), BAD);
        CHECK.due("no such CHANNEL", x.bend(0, 2, 0), SORT);
        CHECK.due("a wide one", x.bend(1, 0, 0), SORT);
        CHECK.due("a wide one", x.bend(1, 1, NONE), SORT);
        CHECK.due("of a GROUP", x.bend(2, 0, 0), SORT);
        CHECK.found("as found", x, 0, 0, 4, 0, 0, 0);
        CHECK.due("LEVEL of a MOVER", x.bend(1, 2, 0), 1);
        CHECK.due("LEVEL", x.bend(0, 0, 0), 1);
        CHECK.due("RATE", x.bend(0, 1, 3), 1);
        x.tick(1);
        CHECK.bytes("CURVES without POINTS", x, 0, 100, 100);
        x.point(0, 0, bits(41.5f));
        x.point(3, 0, bits(1e9f));
        x.tick(1);
        CHECK.bytes("halves up, 255 at most", x, 0, 42, 255);
        x.bend(0, 0, 3);
        x.bend(0, 1, 1);
        x.point(1, 100, bits(-3f));
        x.tick(1);
        CHECK.bytes("0 at least", x, 0, 255, 0);
        CHECK.due("none", x.bend(0, 0, NONE), 1);
        CHECK.due("none", x.bend(0, 1, NONE), 1);
        x.tick(1);
        CHECK.bytes("not bent any more", x, 0, 100, 100);
        rounding();
    }

    private static void rounding() {
        float[] ys = {0.49f, 0.49999997f, 0.5f, 254.4f, 254.49998f, 254.5f, 255.4f, -0.4f, -0.6f, 3.4e38f, -3.4e38f};
        for (float y : ys) {
            CueBoard x = strobeAt(9);
            x.bend(0, 1, 0);
            x.point(0, 0, bits(y));
            x.tick(1);
            CHECK.due("BENT by " + y, x.at(0, 1), Math.max(0, Math.min(255, (int) (y + 0.5f))));
        }
        CueBoard x = strobeAt(128);
        x.bend(0, 0, 0);
        x.point(0, 0, 0xFF7FFFFF);
        x.point(0, 255, 0x7F7FFFFF);
        x.tick(1);
        CHECK.due("endless between two", x.at(0, 0), 255);
    }

    private static void bentInHoles() {
        CueBoard x = strobeAt(60);
        x.bend(0, 0, 0);
        x.point(0, 50, 0x7FC00000);
        x.point(0, 200, bits(77f));
        x.tick(1);
        CHECK.bytes("a HOLE before it was BENT", x, 0, 0, 60);
        x.bend(0, 0, 1);
        x.point(1, 0, bits(90f));
        x.tick(1);
        CHECK.bytes("BENT", x, 0, 90, 60);
        x.bend(0, 0, 0);
        x.tick(1);
        CHECK.bytes("in the HOLE what it was", x, 0, 90, 60);
        x.bend(0, 0, NONE);
        x.tick(1);
        CHECK.bytes("no CURVE", x, 0, 60, 60);
        x.unpatch(0);
        x.bend(0, 0, 2);
        x.point(2, 0, bits(33f));
        x.tick(1);
        x.patch(0, 0, 0);
        x.bend(0, 0, 0);
        x.tick(1);
        CHECK.bytes("it was not BENT meanwhile", x, 0, 90, 60);
        // What it was is what it was BENT to, though MOST made it less.
        CueBoard y = new CueBoard();
        y.line(0, 3);
        y.fixture(3, 100);
        y.patch(0, 0, 0);
        y.bend(0, 2, 0);
        y.point(0, 0, bits(240f));
        y.point(0, 10, 0x7FC00000);
        y.point(1, 0, bits(0f));
        y.tick(1);
        CHECK.bytes("MOST of a SCREEN", y, 0, 0, 0, 200);
        y.entry(0, 0, 2, 20, 0);
        y.list(0, 0, 0);
        y.load(0, 0);
        y.go(0);
        y.tick(1);
        CHECK.bytes("in the HOLE, at MOST again", y, 0, 0, 0, 200);
    }
}
