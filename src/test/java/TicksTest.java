/** Promises 30 to 35: limit, heat, over, blackout, tick, found. */
public final class TicksTest {
    private static final int NONE = CueBoard.NONE, BAD = CueBoard.BAD, FULL = CueBoard.FULL;
    private static final Check CHECK = new Check();

    public static void main(String[] args) {
        limits();
        heatIsCut();
        heatOfWholeChannels();
        heatOfSharedBytes();
        heatOfSeveralLines();
        nothingLeftToCut();
        levelsAtMost();
        blackouts();
        ticking();
        findingsOfTicks();
        foundIsAsked();
        CHECK.end();
    }

    /** All CHANNELS of all FIXTURES are set to a value by PLAYBACK 0. */
    private static void light(CueBoard x, int value) {
        int cue = 0;
        for (int f = 0; f < x.told(0); f++) {
            int n = new int[] {1, 2, 3, 3, 0}[x.about(f, 0)];
            for (int c = 0; c < n; c++) {
                if (x.entry(cue, f, c, value, 0) == 12) {
                    x.list(0, cue, 0);
                    cue++;
                }
            }
        }
        x.list(0, cue, 0);
        x.load(0, 0);
        for (int i = 0; i <= cue; i++) {
            x.go(0);
        }
    }

    private static void limits() {
        CueBoard x = new CueBoard();
        CHECK.due("BAD", x.limit(4, 0), BAD);
        CHECK.due("BAD", x.limit(-1, 0), BAD);
        CHECK.due("BAD", x.limit(0, -1), BAD);
        CHECK.due("BAD", x.limit(0, 1000001), BAD);
        CHECK.due("not told", x.limit(3, 0), 1);
        CHECK.due("the most", x.limit(3, 1000000), 1);
        CHECK.due("BAD", x.heat(4), BAD);
        CHECK.due("BAD", x.heat(-1), BAD);
        CHECK.due("BAD", x.over(4), BAD);
        CHECK.due("BAD", x.over(-1), BAD);
    }

    private static void heatIsCut() {
        CueBoard x = new CueBoard();
        x.line(1, 10);
        x.fixture(0, 0);
        x.fixture(3, 10);
        x.fixture(2, 40);
        x.patch(0, 1, 0);
        x.patch(2, 1, 1);
        x.patch(1, 1, 6);
        light(x, 200);
        x.tick(1);
        // 20 * 200 / 255 = 15, 140 * 200 / 255 = 109, three times 60 * 200 / 255 = 47
        CHECK.due("HEAT", x.heat(1), 15 + 109 + 3 * 47);
        CHECK.bytes("whole", x, 1, 200, 0, 200, 0, 200, 200, 200, 200, 200);
        CHECK.due("just as much", x.limit(1, 265), 1);
        x.tick(1);
        CHECK.bytes("not above it", x, 1, 200, 0, 200, 0, 200, 200, 200, 200, 200);
        x.limit(1, 264);
        x.tick(1);
        // 60 * b / 255 <= 46: b <= 199
        CHECK.bytes("BLUE of the latest first", x, 1, 200, 0, 200, 0, 200, 200, 200, 200, 199);
        CHECK.due("HEAT", x.heat(1), 264);
        CHECK.due("over", x.over(1), 0);
        x.limit(1, 160);
        x.tick(1);
        CHECK.bytes("two of them", x, 1, 200, 0, 200, 0, 200, 200, 157, 0, 0);
        CHECK.due("HEAT", x.heat(1), 160);
        x.limit(1, 20);
        x.tick(1);
        CHECK.bytes("then the MOVER's LEVEL", x, 1, 200, 0, 200, 0, 200, 10, 0, 0, 0);
        CHECK.due("HEAT", x.heat(1), 20);
        x.firm(2, true);
        x.tick(1);
        CHECK.bytes("all but the FIRM one", x, 1, 0, 0, 200, 0, 200, 200, 0, 0, 0);
        CHECK.due("HEAT", x.heat(1), 109);
        CHECK.due("over", x.over(1), 1);
        x.limit(1, 300);
        CHECK.due("over of the latest TICK", x.over(1), 1);
        x.firm(2, false);
        x.patch(0, 1, 0);
        x.limit(1, 260);
        x.tick(1);
        CHECK.bytes("PATCHED anew: the latest", x, 1, 140, 0, 200, 0, 200, 200, 200, 200, 200);
        CHECK.due("over", x.over(1), 0);
        CHECK.due("VALUES stay", x.value(0, 0, 0), 200);
    }

    private static void heatOfWholeChannels() {
        CueBoard x = new CueBoard();
        x.line(0, 2);
        x.fixture(3, 0);
        x.patch(0, 0, 0);
        x.fixture(2, 0);
        x.patch(1, 0, 0);
        light(x, 255);
        x.tick(1);
        CHECK.due("two of three colours, no LEVEL", x.heat(0), 120);
        x.limit(0, 60);
        x.tick(1);
        CHECK.due("cut to the first", x.heat(0), 60);
        // The MOVER has the bytes, but its wide CHANNELS have no HEAT.
        CHECK.bytes("PAN", x, 0, 0, 255);
        x.pull(0);
        x.tick(1);
        CHECK.due("PULLED", x.heat(0), 60);
        x.line(0, 3);
        x.limit(0, 1000);
        x.tick(1);
        CHECK.due("three colours", x.heat(0), 180);
        x.patch(0, 3, 0);
        x.tick(1);
        CHECK.due("none here", x.heat(0), 0);
        CHECK.due("a LINE that was never told", x.heat(3), 0);
    }

    private static void heatOfSharedBytes() {
        CueBoard x = new CueBoard();
        x.line(0, 1);
        for (int f = 0; f < 3; f++) {
            x.fixture(0, 0);
            x.patch(f, 0, 0);
        }
        light(x, 255);
        x.tick(1);
        CHECK.due("also of one whose byte another one has", x.heat(0), 60);
        x.limit(0, 50);
        x.tick(1);
        CHECK.due("the latest is cut", x.at(0, 0), 140);
        CHECK.due("HEAT", x.heat(0), 50);
    }

    private static void heatOfSeveralLines() {
        CueBoard x = new CueBoard();
        for (int l = 0; l < 4; l++) {
            x.line(l, 4);
            x.fixture(1, 0);
            x.patch(l, l, 0);
            x.limit(l, l * 7);
        }
        light(x, 255);
        x.tick(1);
        int[] bytes = {12, 101, 191, 255};
        int[] heats = {0, 7, 14, 20};
        for (int l = 0; l < 4; l++) {
            CHECK.due("LEVEL on " + l, x.at(l, 0), bytes[l]);
            CHECK.due("RATE on " + l, x.at(l, 1), 255);
            CHECK.due("heat(" + l + ")", x.heat(l), heats[l]);
            CHECK.due("over(" + l + ")", x.over(l), 0);
        }
    }

    private static void nothingLeftToCut() {
        CueBoard x = new CueBoard();
        x.line(0, 4);
        x.fixture(0, 0);
        x.fixture(0, 0);
        x.patch(0, 0, 0);
        x.patch(1, 0, 1);
        x.firm(0, true);
        x.limit(0, 5);
        light(x, 100);
        x.tick(1);
        CHECK.bytes("0, though it is above it still", x, 0, 100, 0);
        CHECK.due("over", x.over(0), 1);
        CHECK.due("HEAT", x.heat(0), 7);
        // 101 * 154 / 255 is 60, 101 * 155 / 255 is 61.
        CueBoard y = new CueBoard();
        y.line(0, 5);
        y.fixture(2, 1);
        y.patch(0, 0, 0);
        light(y, 255);
        y.limit(0, 60);
        y.tick(1);
        CHECK.due("the greatest one", y.at(0, 4), 154);
        x.firm(0, false);
        x.limit(0, 0);
        x.tick(1);
        CHECK.bytes("0 while the other one alone is above it, then the greatest that gives none", x, 0, 12, 0);
        CHECK.due("over", x.over(0), 0);
        CHECK.due("HEAT", x.heat(0), 0);
    }

    private static void levelsAtMost() {
        CueBoard x = new CueBoard();
        x.line(0, 20);
        x.fixture(2, 100);
        x.fixture(3, 60);
        x.fixture(1, 100);
        x.patch(0, 0, 0);
        x.patch(1, 0, 5);
        x.patch(2, 0, 8);
        light(x, 65535);
        x.tick(1);
        CHECK.bytes("MOST of DIMMING ones", x, 0, 255, 255, 255, 255, 200, 240, 240, 240, 255, 255);
        x.master(NONE, 90);
        x.tick(1);
        CHECK.bytes("behind GRAND", x, 0, 255, 255, 255, 255, 200, 229, 229, 229, 229, 255);
    }

    private static void blackouts() {
        CueBoard x = new CueBoard();
        x.line(0, 11);
        x.fixture(0, 0);
        x.fixture(1, 0);
        x.fixture(2, 0);
        x.fixture(3, 0);
        x.patch(0, 0, 0);
        x.patch(1, 0, 1);
        x.patch(2, 0, 3);
        x.patch(3, 0, 8);
        light(x, 255);
        x.limit(0, 300);
        x.tick(1);
        CHECK.due("HEAT", x.heat(0), 300);
        CHECK.due("blackout", x.blackout(true), 0);
        CHECK.due("told(3)", x.told(3), 1);
        CHECK.due("not before a TICK", x.at(0, 0), 255);
        x.tick(1);
        CHECK.bytes("DIMMING ones are 0", x, 0, 0, 0, 255, 0, 255, 0, 255, 0, 0, 0, 0);
        CHECK.due("HEAT as cut before it", x.heat(0), 300);
        CHECK.due("again", x.blackout(true), 1);
        CHECK.due("it ends", x.blackout(false), 1);
        CHECK.due("told(3)", x.told(3), 0);
        CHECK.due("again", x.blackout(false), 0);
        x.tick(1);
        CHECK.due("light", x.at(0, 0), 255);
        CHECK.due("each BLACKOUT is in THE BOOK", x.told(2), 29);
    }

    private static void ticking() {
        CueBoard x = new CueBoard();
        CHECK.due("BAD", x.tick(0), BAD);
        CHECK.due("BAD", x.tick(-1), BAD);
        CHECK.due("BAD", x.tick(6), BAD);
        CHECK.due("told(1)", x.told(1), 0);
        for (int i = 1; i <= 399; i++) {
            CHECK.due("tick(5)", x.tick(5), 5 * i);
        }
        CHECK.due("1995 and 4", x.tick(4), 1999);
        CHECK.due("above 2000", x.tick(2), FULL);
        CHECK.due("BAD ahead of FULL", x.tick(6), BAD);
        CHECK.due("none of them went", x.told(1), 1999);
        CHECK.due("2000", x.tick(1), 2000);
        CHECK.due("above 2000", x.tick(1), FULL);
        CHECK.due("ENTRIES", x.playback(0, 4), 2000);
        CHECK.due("LEAVINGS", x.playback(3, 5), 2000);
    }

    private static void findingsOfTicks() {
        CueBoard x = new CueBoard();
        x.fixture(2, 0);
        x.fixture(3, 0);
        x.fixture(0, 0);
        x.patch(0, 0, 0);
        x.tick(1);
        CHECK.found("never told: by CHANNELS", x, 3, 0, 0, 0, 0, 0);
        x.line(0, 3);
        x.tick(1);
        CHECK.found("TILT and LEVEL", x, 3, 2, 0, 0, 0, 0);
        x.patch(1, 1, 63);
        x.line(1, 64);
        x.tick(2);
        CHECK.found("GREEN and BLUE, too", x, 3, 10, 0, 0, 0, 0);
        x.pull(0);
        x.tick(1);
        CHECK.found("NOTHING alone", x, 6, 12, 0, 0, 0, 0);
        x.line(2, 0);
        x.patch(2, 2, 0);
        x.tick(1);
        CHECK.found("no place", x, 9, 15, 0, 0, 0, 0);
        // A wide CHANNEL of which one byte alone is there writes nothing.
        CueBoard y = new CueBoard();
        y.line(0, 3);
        y.fixture(2, 0);
        y.patch(0, 0, 0);
        light(y, 65535);
        y.tick(1);
        CHECK.bytes("TILT is not WHOLE", y, 0, 255, 255, 0);
    }

    private static void foundIsAsked() {
        CueBoard x = new CueBoard();
        CHECK.due("BAD", x.found(0), BAD);
        CHECK.due("BAD", x.found(7), BAD);
        CHECK.due("BAD", x.found(Integer.MIN_VALUE), BAD);
        CHECK.due("BAD", x.found(-11), BAD);
        x.line(0, 1);
        x.fixture(3, 0);
        x.group(1, 1);
        x.at(1, 0);
        x.at(0, 1);
        x.at(0, 2);
        x.asks(1, 1);
        x.asks(1, 1);
        x.asks(1, 1);
        x.asks(0, 2);
        x.asks(0, 2);
        x.asks(0, 2);
        x.asks(0, 2);
        x.line(0, -5);
        x.line(0, -5);
        x.line(0, -5);
        x.line(0, -5);
        x.line(0, -5);
        for (int i = 0; i < 6; i++) {
            x.member(1, 0, 0);
        }
        CHECK.found("each by its kind", x, 1, 2, 3, 4, 5, 6);
    }
}
