/** The edges of LINES: part 1 of the document's terms, and promises 1 to 6. */
public final class LineEdgesTest {
    private static final int NONE = CueBoard.NONE, BAD = CueBoard.BAD, NO = CueBoard.NO;
    private static final int NOTHING = -11, BEYOND = -12, FEWER = -15;
    private static final int MIN = Integer.MIN_VALUE, MAX = Integer.MAX_VALUE;
    private static final Check CHECK = new Check();
    private static final Edges EDGES = new Edges(CHECK);

    public static void main(String[] args) {
        lineNumbers();
        places();
        placesThatAreThere();
        whatStaysAnew();
        pulling();
        plugging();
        pulledOnesKeepTheirPlaces();
        readingAByte();
        readingTwoBytes();
        bytesAndTheirEnds();
        nothingOnANewObject();
        newLimits();
        CHECK.end();
    }

    /** LINES 0 .. 3. */
    private static void lineNumbers() {
        String why = "LINES 0 .. 3";
        EDGES.between(why, Rigs.NEW, 1, 0, 0, 3, "line", 0, 5);
        EDGES.between(why, Rigs.LIVELY, 1, 0, 0, 3, "line", 0, 5);
        EDGES.between(why, Rigs.ALL_PLUGGED, 1, 0, 0, 3, "pull", 0);
        EDGES.between(why, Rigs.ALL_PULLED, 1, 0, 0, 3, "plug", 0);
        EDGES.between(why, Rigs.ALL_PULLED, NOTHING, 0, 0, 3, "at", 0, 0);
        EDGES.between(why, Rigs.ALL_PULLED, NOTHING, 0, 0, 3, "wide", 0, 0);
        EDGES.between(why, Rigs.LIVELY, 1, 0, 0, 3, "limit", 0, 5);
        EDGES.between(why, Rigs.NEW, 0, 0, 0, 3, "heat", 0);
        EDGES.between(why, Rigs.NEW, 0, 0, 0, 3, "over", 0);
        EDGES.between(why, Rigs.LIVELY, 1, 1, 0, 3, "patch", 0, 0, 0);
    }

    /** LINES are told with 0 to 64 places. BAD: l, n above 64; FEWER. */
    private static void places() {
        for (Rigs.Rig rig : new Rigs.Rig[] {Rigs.NEW, Rigs.LIVELY, Rigs.LIVELY_BEHIND_3}) {
            for (int l = 0; l < 4; l++) {
                EDGES.taken("no place", rig, 1, "line", l, 0);
                EDGES.taken("one place", rig, 1, "line", l, 1);
                EDGES.taken("64 places", rig, 1, "line", l, 64);
                EDGES.still("more than 64", rig, BAD, "line", l, 65);
                EDGES.still("fewer than none", rig, FEWER, "line", l, -1);
            }
            EDGES.still("more than 64", rig, BAD, "line", 0, MAX);
            EDGES.still("fewer than none", rig, FEWER, "line", 0, MIN);
            EDGES.still("BAD ahead of FEWER", rig, BAD, "line", 4, -1);
            EDGES.still("BAD ahead of FEWER", rig, BAD, "line", -1, MIN);
        }
    }

    /** As many places as were told are there, and no more; all are 0. */
    private static void placesThatAreThere() {
        for (int n : new int[] {0, 1, 2, 63, 64}) {
            CueBoard x = new CueBoard();
            CHECK.due("line", x.line(2, n), 1);
            for (int p = 0; p < n; p++) {
                CHECK.due(n + " places: at(2, " + p + ")", x.at(2, p), 0);
            }
            CHECK.due(n + " places: no more", x.at(2, n), BEYOND);
            CHECK.due(n + " places: no more", x.at(2, 64), BEYOND);
            CHECK.due(n + " places: none before", x.at(2, -1), BEYOND);
        }
    }

    /** A lit DIMMER that is FIRM at place 0 of LINE 0 (n places), above its LIMIT. */
    private static CueBoard lit(int n) {
        CueBoard x = new CueBoard();
        x.line(0, n);
        x.fixture(0, 0);
        x.patch(0, 0, 0);
        x.firm(0, true);
        x.limit(0, 19);
        x.entry(0, 0, 0, 255, 0);
        x.list(0, 0, 0);
        x.load(0, 0);
        x.go(0);
        x.tick(1);
        return x;
    }

    /** All 0, PLUGGED (also anew; its LIMIT, what is PATCHED to it, heat(), over() stay). */
    private static void whatStaysAnew() {
        for (int n : new int[] {0, 1, 64}) {
            CueBoard x = lit(1);
            CHECK.due("lit", x.at(0, 0), 255);
            CHECK.due("anew", x.line(0, n), 1);
            CHECK.due("all 0", x.at(0, 0), n == 0 ? BEYOND : 0);
            CHECK.due("its end", x.at(0, n), BEYOND);
            CHECK.due("PLUGGED", x.plug(0), NO);
            CHECK.due("heat() stays", x.heat(0), 20);
            CHECK.due("over() stays", x.over(0), 1);
            CHECK.due("PATCHED still", x.about(0, 2), 0);
            CHECK.due("PATCHED still", x.about(0, 3), 0);
            x.tick(1);
            CHECK.due("lit again, where it is WHOLE", x.at(0, 0), n == 0 ? BEYOND : 255);
            CHECK.due("heat", x.heat(0), n == 0 ? 0 : 20);
            CHECK.due("its LIMIT stays", x.over(0), n == 0 ? 0 : 1);
            x.pull(0);
            CHECK.due("anew when PULLED", x.line(0, n), 1);
            CHECK.due("PLUGGED", x.plug(0), NO);
            CHECK.due("all 0", x.at(0, 0), n == 0 ? BEYOND : 0);
        }
    }

    /** A LINE is PULLED: 1. BAD; NO: it is, or was never told. */
    private static void pulling() {
        EDGES.still("it is PULLED", Rigs.LIVELY, NO, "pull", 2);
        EDGES.still("never told", Rigs.LIVELY, NO, "pull", 3);
        EDGES.taken("PLUGGED", Rigs.LIVELY, 1, "pull", 0);
        EDGES.taken("PLUGGED", Rigs.LIVELY, 1, "pull", 1);
        for (int l = 0; l < 4; l++) {
            EDGES.still("never told", Rigs.NEW, NO, "pull", l);
            EDGES.still("it is PULLED", Rigs.ALL_PULLED, NO, "pull", l);
        }
    }

    /** A LINE is PLUGGED: 1. BAD; NO: it is, or was never told. */
    private static void plugging() {
        EDGES.still("it is PLUGGED", Rigs.LIVELY, NO, "plug", 0);
        EDGES.still("it is PLUGGED", Rigs.LIVELY, NO, "plug", 1);
        EDGES.taken("PULLED", Rigs.LIVELY, 1, "plug", 2);
        EDGES.still("never told", Rigs.LIVELY, NO, "plug", 3);
        for (int l = 0; l < 4; l++) {
            EDGES.still("never told", Rigs.NEW, NO, "plug", l);
            EDGES.still("it is PLUGGED", Rigs.ALL_PLUGGED, NO, "plug", l);
        }
    }

    /** One that is PULLED keeps how many places it has; PLUGGED again all are 0 till the next TICK. */
    private static void pulledOnesKeepTheirPlaces() {
        for (int n : new int[] {0, 1, 64}) {
            CueBoard x = lit(n);
            CHECK.due("pull", x.pull(0), 1);
            CHECK.due("nothing there", x.at(0, 0), NOTHING);
            x.tick(1);
            CHECK.due("HEAT by the places that it keeps", x.heat(0), n == 0 ? 0 : 20);
            CHECK.due("plug", x.plug(0), 1);
            for (int p = 0; p < n; p++) {
                CHECK.due("0 till the next TICK", x.at(0, p), 0);
            }
            CHECK.due("as many as it had", x.at(0, n), BEYOND);
            x.tick(1);
            CHECK.due("lit again", x.at(0, 0), n == 0 ? BEYOND : 255);
        }
        // Plugged without a TICK meanwhile they are 0, too.
        CueBoard y = lit(2);
        y.pull(0);
        y.plug(0);
        CHECK.bytes("0 till the next TICK", y, 0, 0, 0);
    }

    /** The byte at a place. BAD: l; NOTHING; BEYOND. */
    private static void readingAByte() {
        EDGES.still("the first", Rigs.LIVELY, 0, "at", 1, 0);
        EDGES.still("the last", Rigs.LIVELY, 0, "at", 0, 11);
        EDGES.still("the last", Rigs.LIVELY, 0, "at", 1, 63);
        for (int p : new int[] {12, 63, 64, MAX, -1, MIN}) {
            EDGES.still("no such place", Rigs.LIVELY, BEYOND, "at", 0, p);
            EDGES.still("PULLED", Rigs.LIVELY, NOTHING, "at", 2, p);
            EDGES.still("never told", Rigs.LIVELY, NOTHING, "at", 3, p);
            EDGES.still("BAD ahead of all", Rigs.LIVELY, BAD, "at", 4, p);
        }
        EDGES.still("behind 64", Rigs.LIVELY, BEYOND, "at", 1, 64);
        EDGES.still("PULLED", Rigs.LIVELY, NOTHING, "at", 2, 0);
        EDGES.still("PULLED", Rigs.LIVELY_BEHIND_3, NOTHING, "at", 2, 0);
        EDGES.still("never told", Rigs.LIVELY_BEHIND_3, NOTHING, "at", 3, 0);
    }

    /** The two bytes from a place on as one number. BAD: l; NOTHING; BEYOND: one of both. */
    private static void readingTwoBytes() {
        EDGES.still("the last two", Rigs.LIVELY, 0, "wide", 0, 10);
        EDGES.still("the last two", Rigs.LIVELY, 0, "wide", 1, 62);
        for (int p : new int[] {11, 12, MAX, -1, -2, MIN}) {
            EDGES.still("one of both, or both", Rigs.LIVELY, BEYOND, "wide", 0, p);
            EDGES.still("PULLED", Rigs.LIVELY, NOTHING, "wide", 2, p);
            EDGES.still("never told", Rigs.LIVELY, NOTHING, "wide", 3, p);
            EDGES.still("BAD ahead of all", Rigs.LIVELY, BAD, "wide", -1, p);
        }
        EDGES.still("one of both", Rigs.LIVELY, BEYOND, "wide", 1, 63);
        for (int n = 0; n <= 2; n++) {
            CueBoard x = new CueBoard();
            x.line(0, n);
            CHECK.due("wide(0, 0) of " + n, x.wide(0, 0), n == 2 ? 0 : BEYOND);
            CHECK.due("wide(0, 1) of " + n, x.wide(0, 1), BEYOND);
            CHECK.due("found as often", x.found(2), n == 2 ? 1 : 2);
        }
    }

    /** Each place is a byte (0 .. 255); a wide CHANNEL is two bytes, the high one first. */
    private static void bytesAndTheirEnds() {
        int[][] rows = {{0, 0, 0}, {1, 0, 1}, {255, 0, 255}, {256, 1, 0}, {32768, 128, 0}, {65280, 255, 0},
            {65534, 255, 254}, {65535, 255, 255}};
        for (int[] row : rows) {
            CueBoard x = new CueBoard();
            x.line(0, 2);
            x.fixture(2, 0);
            x.patch(0, 0, 0);
            x.entry(0, 0, 0, row[0], 0);
            x.list(0, 0, 0);
            x.load(0, 0);
            x.go(0);
            x.tick(1);
            CHECK.bytes("PAN at " + row[0], x, 0, row[1], row[2]);
            CHECK.due("as one number", x.wide(0, 0), row[0]);
        }
    }

    /** No LINES, FIXTURES, POINTS, ENTRIES; no BLACKOUT, no TICK. */
    private static void nothingOnANewObject() {
        Rigs.Rig rig = Rigs.NEW;
        for (int i = 0; i < 4; i++) {
            EDGES.still("no LINE", rig, NOTHING, "at", i, 0);
            EDGES.still("no LINE", rig, NOTHING, "wide", i, 0);
            EDGES.still("no LIST", rig, NO, "go", i);
            EDGES.taken("no FADE", rig, 0, "stop", i);
            EDGES.taken("no CHANNEL", rig, 0, "release", i);
            EDGES.taken("MASTER", rig, 100, "master", i, 0);
            EDGES.still("no LIST", rig, NONE, "playback", i, 0);
            EDGES.still("PLACE", rig, -1, "playback", i, 1);
            EDGES.taken("the first POINT", rig, 1, "point", i, 0, 0);
            EDGES.taken("the first CUE", rig, 1, "list", i, 0, 0);
        }
        noFixtureYet(rig);
        EDGES.taken("GRAND", rig, 100, "master", NONE, 0);
        EDGES.taken("no BLACKOUT", rig, 0, "blackout", 1);
        EDGES.taken("the first TICK", rig, 1, "tick", 1);
        EDGES.still("no TICK", rig, NO, "back", 0);
        EDGES.still("THE DIGEST", rig, 0, "digest");
        EDGES.still("PLAYED AGAIN", rig, 0, "replay");
        EDGES.still("THE TRACE", rig, NONE, "trace", 0);
        for (int what = 0; what < 4; what++) {
            EDGES.still("told", rig, 0, "told", what);
        }
        for (int finding = 1; finding <= 6; finding++) {
            EDGES.still("FOUND", rig, 0, "found", finding);
        }
    }

    private static void noFixtureYet(Rigs.Rig rig) {
        EDGES.still("no FIXTURE", rig, BAD, "about", 0, 0);
        EDGES.still("no FIXTURE", rig, BAD, "asks", 0, 0);
        EDGES.still("no FIXTURE", rig, BAD, "member", 0, 0, NONE);
        EDGES.still("no FIXTURE", rig, BAD, "memberAt", 0, 0);
        EDGES.still("no FIXTURE", rig, BAD, "patch", 0, 0, 0);
        EDGES.still("no FIXTURE", rig, BAD, "unpatch", 0);
        EDGES.still("no FIXTURE", rig, BAD, "firm", 0, 1);
        EDGES.still("no FIXTURE", rig, BAD, "bend", 0, 0, 0);
        EDGES.still("no FIXTURE", rig, BAD, "entry", 0, 0, 0, 0, 0);
        EDGES.still("no FIXTURE", rig, BAD, "merge", 0, 0, 1);
        EDGES.still("no FIXTURE", rig, BAD, "value", 0, 0, 0);
        EDGES.taken("the first FIXTURE", rig, 0, "fixture", 0, 0);
        EDGES.taken("the first FIXTURE", rig, 0, "group", 0, 0);
    }

    /** LIMITS of 1000000: as much HEAT as there can be is below them. */
    private static void newLimits() {
        CueBoard x = new CueBoard();
        x.line(3, 3);
        for (int f = 0; f < 24; f++) {
            x.fixture(3, 0);
            x.patch(f, 3, 0);
            for (int c = 0; c < 3; c++) {
                x.entry(f / 4, f, c, 255, 0);
            }
        }
        x.load(0, 0);
        for (int cue = 0; cue < 6; cue++) {
            x.list(0, cue, 0);
            x.go(0);
        }
        x.tick(1);
        CHECK.due("24 SCREENS", x.heat(3), 24 * 180);
        CHECK.due("not above", x.over(3), 0);
        CHECK.bytes("not cut", x, 3, 255, 255, 255);
        CHECK.due("just that", x.limit(3, 4320), 1);
        x.tick(1);
        CHECK.bytes("not cut", x, 3, 255, 255, 255);
        CHECK.due("one less", x.limit(3, 4319), 1);
        x.tick(1);
        CHECK.bytes("cut", x, 3, 255, 255, 254);
        CHECK.due("HEAT", x.heat(3), 4319);
        CHECK.due("the most again", x.limit(3, 1000000), 1);
        x.tick(1);
        CHECK.due("HEAT", x.heat(3), 4320);
    }
}
