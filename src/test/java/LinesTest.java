/** Promises 1 to 6: a new object, line, pull, plug, at, wide. */
public final class LinesTest {
    private static final int BAD = CueBoard.BAD, NO = CueBoard.NO;
    private static final int NOTHING = -11, BEYOND = -12, FEWER = -15;
    private static final Check CHECK = new Check();

    public static void main(String[] args) {
        newObject();
        lineIsTold();
        lineAnew();
        pullAndPlug();
        readings();
        CHECK.end();
    }

    private static void newObject() {
        CueBoard x = new CueBoard();
        CHECK.due("FIXTURES", x.told(0), 0);
        CHECK.due("TICKS", x.told(1), 0);
        CHECK.due("calls in THE BOOK", x.told(2), 0);
        CHECK.due("BLACKOUT", x.told(3), 0);
        CHECK.due("GRAND", x.told(4), 100);
        CHECK.due("THE DIGEST", x.digest(), 0);
        CHECK.due("replay of nothing", x.replay(), 0);
        CHECK.due("back before a TICK", x.back(0), NO);
        CHECK.trace("new", x);
        CHECK.found("new", x, 0, 0, 0, 0, 0, 0);
        for (int i = 0; i < 4; i++) {
            CHECK.due("heat(" + i + ")", x.heat(i), 0);
            CHECK.due("over(" + i + ")", x.over(i), 0);
            CHECK.due("LIST of " + i, x.playback(i, 0), CueBoard.NONE);
            CHECK.due("PLACE of " + i, x.playback(i, 1), -1);
            CHECK.due("MASTER of " + i, x.playback(i, 2), 100);
            for (int what = 3; what <= 6; what++) {
                CHECK.due("playback(" + i + ", " + what + ")", x.playback(i, what), 0);
            }
            CHECK.due("curve without POINTS", x.curve(i, 200), Float.floatToIntBits(200f));
            CHECK.due("at of a LINE never told", x.at(i, 0), NOTHING);
        }
        // A LIMIT of 1000000 never cuts: three bytes of a SCREEN stay whole.
        CHECK.due("line", x.line(0, 3), 1);
        CHECK.due("fixture", x.fixture(3, 0), 0);
        CHECK.due("patch", x.patch(0, 0, 0), 1);
        for (int c = 0; c < 3; c++) {
            x.entry(0, 0, c, 255, 0);
        }
        x.list(0, 0, 0);
        x.load(0, 0);
        x.go(0);
        x.tick(1);
        CHECK.bytes("no LIMIT that cuts", x, 0, 255, 255, 255);
        CHECK.due("heat", x.heat(0), 180);
    }

    private static void lineIsTold() {
        CueBoard x = new CueBoard();
        CHECK.due("line(-1, 5)", x.line(-1, 5), BAD);
        CHECK.due("line(4, 5)", x.line(4, 5), BAD);
        CHECK.due("line(4, -1)", x.line(4, -1), BAD);
        CHECK.due("line(0, 65)", x.line(0, 65), BAD);
        CHECK.due("line(0, MAX)", x.line(0, Integer.MAX_VALUE), BAD);
        CHECK.found("BAD is no FINDING", x, 0, 0, 0, 0, 0, 0);
        CHECK.due("line(0, -1)", x.line(0, -1), FEWER);
        CHECK.due("line(0, MIN)", x.line(0, Integer.MIN_VALUE), FEWER);
        CHECK.found("FEWER", x, 0, 0, 0, 0, 2, 0);
        CHECK.due("still never told", x.at(0, 0), NOTHING);
        CHECK.due("calls in THE BOOK", x.told(2), 0);
        CHECK.due("line(3, 64)", x.line(3, 64), 1);
        CHECK.due("at(3, 63)", x.at(3, 63), 0);
        CHECK.due("at(3, 64)", x.at(3, 64), BEYOND);
        CHECK.due("line(1, 0)", x.line(1, 0), 1);
        CHECK.due("at(1, 0)", x.at(1, 0), BEYOND);
        CHECK.due("FEWER on one that is told", x.line(3, -1), FEWER);
        CHECK.due("it keeps its places", x.at(3, 63), 0);
    }

    /** A board with a DIMMER at 200 on LINE 0, place 0, limited to a HEAT of 10. */
    private static CueBoard lit() {
        CueBoard x = new CueBoard();
        x.line(0, 4);
        x.fixture(0, 0);
        x.patch(0, 0, 0);
        x.firm(0, true);
        x.limit(0, 10);
        x.entry(0, 0, 0, 200, 0);
        x.list(0, 0, 0);
        x.load(0, 0);
        x.go(0);
        x.tick(1);
        return x;
    }

    private static void lineAnew() {
        CueBoard x = lit();
        CHECK.due("lit", x.at(0, 0), 200);
        CHECK.due("heat", x.heat(0), 15);
        CHECK.due("over", x.over(0), 1);
        CHECK.due("told anew", x.line(0, 2), 1);
        CHECK.due("all 0", x.at(0, 0), 0);
        CHECK.due("fewer places", x.at(0, 2), BEYOND);
        CHECK.due("heat stays", x.heat(0), 15);
        CHECK.due("over stays", x.over(0), 1);
        x.tick(1);
        CHECK.due("still PATCHED", x.at(0, 0), 200);
        CHECK.due("its LIMIT stays", x.over(0), 1);
        x.pull(0);
        CHECK.due("told anew when PULLED", x.line(0, 3), 1);
        CHECK.due("PLUGGED, all 0", x.at(0, 0), 0);
        CHECK.due("PLUGGED already", x.plug(0), NO);
    }

    private static void pullAndPlug() {
        CueBoard x = lit();
        CHECK.due("pull(-1)", x.pull(-1), BAD);
        CHECK.due("pull(4)", x.pull(4), BAD);
        CHECK.due("plug(-1)", x.plug(-1), BAD);
        CHECK.due("plug(4)", x.plug(4), BAD);
        CHECK.due("pull of one never told", x.pull(1), NO);
        CHECK.due("plug of one never told", x.plug(1), NO);
        CHECK.due("plug of a PLUGGED one", x.plug(0), NO);
        int digest = x.digest();
        CHECK.due("pull", x.pull(0), 1);
        CHECK.due("pull again", x.pull(0), NO);
        CHECK.due("at", x.at(0, 0), NOTHING);
        CHECK.due("at beyond finds NOTHING", x.at(0, 99), NOTHING);
        CHECK.due("wide", x.wide(0, 0), NOTHING);
        x.tick(1);
        CHECK.due("no byte of a PULLED LINE goes to THE DIGEST", x.digest(), digest);
        CHECK.due("HEAT by the places that it keeps", x.heat(0), 15);
        CHECK.due("plug", x.plug(0), 1);
        CHECK.due("all 0 till the next TICK", x.at(0, 0), 0);
        CHECK.due("as many places", x.at(0, 3), 0);
        CHECK.due("as many places", x.at(0, 4), BEYOND);
        x.tick(1);
        CHECK.due("written again", x.at(0, 0), 200);
    }

    private static void readings() {
        CueBoard x = new CueBoard();
        x.line(0, 6);
        x.fixture(2, 0);
        x.patch(0, 0, 1);
        x.entry(0, 0, 0, 0x1234, 0);
        x.entry(0, 0, 1, 65535, 0);
        x.entry(0, 0, 2, 7, 0);
        x.list(0, 0, 0);
        x.load(0, 0);
        x.go(0);
        x.tick(1);
        CHECK.bytes("a MOVER", x, 0, 0, 0x12, 0x34, 255, 255, 7);
        CHECK.due("wide(0, 1)", x.wide(0, 1), 0x1234);
        CHECK.due("wide(0, 3)", x.wide(0, 3), 65535);
        CHECK.due("wide(0, 4)", x.wide(0, 4), 255 * 256 + 7);
        CHECK.due("wide(0, 0)", x.wide(0, 0), 0x12);
        CHECK.found("so far", x, 0, 0, 0, 0, 0, 0);
        CHECK.due("wide(0, 5)", x.wide(0, 5), BEYOND);
        CHECK.due("wide(0, -1)", x.wide(0, -1), BEYOND);
        CHECK.due("wide(0, MAX)", x.wide(0, Integer.MAX_VALUE), BEYOND);
        CHECK.due("wide(0, MIN)", x.wide(0, Integer.MIN_VALUE), BEYOND);
        CHECK.due("at(0, 6)", x.at(0, 6), BEYOND);
        CHECK.due("at(0, -1)", x.at(0, -1), BEYOND);
        CHECK.due("at(1, 0)", x.at(1, 0), NOTHING);
        CHECK.due("wide(1, 0)", x.wide(1, 0), NOTHING);
        CHECK.due("at(4, 0)", x.at(4, 0), BAD);
        CHECK.due("at(-1, 0)", x.at(-1, 0), BAD);
        CHECK.due("wide(4, 0)", x.wide(4, 0), BAD);
        CHECK.due("wide(-1, 0)", x.wide(-1, 0), BAD);
        CHECK.found("all counted", x, 2, 6, 0, 0, 0, 0);
        x.entry(1, 0, 0, 256, 0);
        x.list(0, 1, 0);
        x.go(0);
        x.tick(1);
        CHECK.due("wide(0, 1)", x.wide(0, 1), 256);
        x.line(2, 1);
        CHECK.due("wide of one place", x.wide(2, 0), BEYOND);
        x.line(2, 0);
        CHECK.due("wide of no place", x.wide(2, 0), BEYOND);
    }
}
