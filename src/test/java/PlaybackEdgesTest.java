/** The edges of PLAYBACKS and their FADES: parts 5 and 6 of the document's terms, and promises 24 to 29. */
public final class PlaybackEdgesTest {
    private static final int NONE = CueBoard.NONE, BAD = CueBoard.BAD;
    private static final int SORT = -13;
    private static final int MIN = Integer.MIN_VALUE, MAX = Integer.MAX_VALUE;
    private static final Check CHECK = new Check();
    private static final Edges EDGES = new Edges(CHECK);

    public static void main(String[] args) {
        playbackNumbers();
        fadesAndTheirEnds();
        halvesUp();
        fadesInPlaceOfOthers();
        fadesSideBySide();
        stoppingNoneAndAll();
        releasingNoneAndAll();
        masterNumbers();
        mastersCut();
        mergeNumbers();
        mergedOfNoneAndAll();
        mergedByTheLatest();
        mergedByChannels();
        valueNumbers();
        whatOfAPlayback();
        actsAreCounted();
        CHECK.end();
    }

    /** PLAYBACKS 0 .. 3. */
    private static void playbackNumbers() {
        String why = "PLAYBACKS 0 .. 3";
        EDGES.between(why, Rigs.NEW, 0, 0, 0, 3, "stop", 0);
        EDGES.between(why, Rigs.NEW, 0, 0, 0, 3, "release", 0);
        EDGES.between(why, Rigs.NEW, 100, 0, NONE, 3, "master", 0, 50);
        EDGES.between(why, Rigs.NEW_DIMMER, NONE, 0, 0, 3, "value", 0, 0, 0);
        for (int what = 0; what < 7; what++) {
            int due = new int[] {NONE, -1, 100, 0, 0, 0, 0}[what];
            EDGES.between(why, Rigs.NEW, due, 0, 0, 3, "playback", 0, what);
        }
        for (int p : new int[] {-1, 4, MIN, MAX}) {
            EDGES.still(why, Rigs.LIVELY, BAD, "stop", p);
            EDGES.still(why, Rigs.LIVELY, BAD, "release", p);
            EDGES.still(why, Rigs.LIVELY, BAD, "load", p, 0);
            EDGES.still(why, Rigs.LIVELY, BAD, "go", p);
            EDGES.still(why, Rigs.LIVELY, BAD, "value", p, 0, 0);
            EDGES.still(why, Rigs.LIVELY, BAD, "playback", p, 0);
        }
        for (int p : new int[] {-2, 4, MIN, MAX}) {
            EDGES.still(why, Rigs.LIVELY, BAD, "master", p, 0);
        }
    }

    /** PAN of a MOVER, at a in PLAYBACK 0; the next CUE fades it to b in t ticks, and has begun. */
    private static CueBoard fade(int a, int b, int t) {
        CueBoard x = new CueBoard();
        x.fixture(2, 0);
        x.entry(0, 0, 0, a, 0);
        x.entry(1, 0, 0, b, t);
        x.list(0, 0, 0);
        x.list(0, 1, 0);
        x.load(0, 0);
        x.go(0);
        x.go(0);
        return x;
    }

    /** In 0 ticks it is that at once; behind t it ends. */
    private static void fadesAndTheirEnds() {
        int[][] ends = {{0, 65535}, {65535, 0}, {7, 7}, {0, 0}, {65535, 65535}, {0, 1}, {1, 0}};
        for (int[] end : ends) {
            CueBoard at = fade(end[0], end[1], 0);
            CHECK.due("at once", at.value(0, 0, 0), end[1]);
            CHECK.due("it does not go", at.playback(0, 3), 0);
            for (int t : new int[] {1, 2, 99, 100}) {
                CueBoard x = fade(end[0], end[1], t);
                CHECK.due("it begins", x.value(0, 0, 0), end[0]);
                for (int k = 1; k < t; k++) {
                    CHECK.due("it goes", x.playback(0, 3), 1);
                    x.tick(1);
                }
                CHECK.due("it goes", x.playback(0, 3), 1);
                x.tick(1);
                CHECK.due("it ends", x.playback(0, 3), 0);
                CHECK.due("it ends there", x.value(0, 0, 0), end[1]);
                x.tick(2);
                CHECK.due("it stays there", x.value(0, 0, 0), end[1]);
            }
        }
        CueBoard none = new CueBoard();
        none.fixture(2, 0);
        none.entry(0, 0, 0, 10, 2);
        none.list(0, 0, 0);
        none.load(0, 0);
        none.go(0);
        CHECK.due("0 when it has none", none.value(0, 0, 0), 0);
        none.tick(1);
        CHECK.due("from 0", none.value(0, 0, 0), 5);
    }

    /** Behind k of them a and (b less a) times k by t, rounded to the nearest whole, halves up. */
    private static void halvesUp() {
        int[][] rows = {
            // a, b, t, then behind 1, 2, ..
            {0, 1, 2, 1, 1}, {1, 0, 2, 1, 0}, {0, 255, 2, 128, 255}, {255, 0, 2, 128, 0}, {3, 0, 2, 2, 0},
            {0, 65535, 2, 32768, 65535}, {65535, 0, 2, 32768, 0}, {0, 1, 3, 0, 1, 1}, {1, 0, 3, 1, 0, 0},
            {0, 1, 4, 0, 1, 1, 1}, {1, 0, 4, 1, 1, 0, 0}, {10, 13, 4, 11, 12, 12, 13}, {13, 10, 4, 12, 12, 11, 10},
            {100, 99, 5, 100, 100, 99, 99, 99}, {65535, 65534, 2, 65535, 65534}, {5, 5, 3, 5, 5, 5},
        };
        for (int[] row : rows) {
            CueBoard x = fade(row[0], row[1], row[2]);
            for (int k = 1; k <= row[2]; k++) {
                x.tick(1);
                CHECK.due(row[0] + " to " + row[1] + " in " + row[2] + " behind " + k, x.value(0, 0, 0), row[2 + k]);
            }
        }
        CueBoard up = fade(0, 1, 100);
        CueBoard down = fade(1, 0, 100);
        for (int k = 1; k <= 100; k++) {
            up.tick(1);
            down.tick(1);
            CHECK.due("0 to 1 in 100 behind " + k, up.value(0, 0, 0), k < 50 ? 0 : 1);
            CHECK.due("1 to 0 in 100 behind " + k, down.value(0, 0, 0), k <= 50 ? 1 : 0);
        }
        CueBoard far = fade(65535, 0, 100);
        for (int k = 1; k <= 100; k++) {
            far.tick(1);
            CHECK.due("65535 to 0 in 100 behind " + k, far.value(0, 0, 0), Math.round(65535.0 * (100 - k) / 100));
        }
    }

    /** A FADE of that CHANNEL begins, in place of an earlier one: also of 0 ticks, and of one and the same CUE. */
    private static void fadesInPlaceOfOthers() {
        for (int first : new int[] {1, 2}) {
            for (int t : new int[] {0, 1, 2}) {
                CueBoard x = fade(10, 20, first);
                x.entry(2, 0, 0, 1000, t);
                x.list(0, 2, 0);
                x.go(0);
                CHECK.due("one goes, or none", x.playback(0, 3), t == 0 ? 0 : 1);
                x.tick(1);
                CHECK.due("one goes, or none", x.playback(0, 3), t == 2 ? 1 : 0);
                CHECK.due("the later one", x.value(0, 0, 0), t == 2 ? 505 : 1000);
            }
        }
        for (int t : new int[] {0, 1, 100}) {
            CueBoard x = fade(10, 20, 4);
            x.entry(2, 0, 0, 1000, t);
            x.list(0, 2, 0);
            x.tick(3);
            CHECK.due("the earlier one", x.value(0, 0, 0), 18);
            x.go(0);
            CHECK.due("one CHANNEL", x.playback(0, 6), 1);
            CHECK.due("its FADES", x.playback(0, 3), t == 0 ? 0 : 1);
            CHECK.due("from where it was", x.value(0, 0, 0), t == 0 ? 1000 : 18);
            x.tick(1);
            CHECK.due("the later one alone", x.value(0, 0, 0), t == 100 ? 28 : 1000);
        }
    }

    /** FADES of one PLAYBACK end each for itself, and those that stopped stay where they are while others go. */
    private static void fadesSideBySide() {
        CueBoard x = new CueBoard();
        x.fixture(3, 0);
        for (int c = 0; c < 3; c++) {
            x.entry(0, 0, c, 120, c + 1);
        }
        x.list(0, 0, 0);
        x.load(0, 0);
        x.go(0);
        int[][] want = {{120, 60, 40, 2}, {120, 120, 80, 1}, {120, 120, 120, 0}, {120, 120, 120, 0}};
        for (int[] row : want) {
            x.tick(1);
            for (int c = 0; c < 3; c++) {
                CHECK.due("behind " + x.told(1) + ": " + c, x.value(0, 0, c), row[c]);
            }
            CHECK.due("that go", x.playback(0, 3), row[3]);
        }
        x.release(0);
        x.go(0);
        x.tick(1);
        CHECK.due("two went", x.stop(0), 2);
        x.entry(2, 0, 1, 0, 2);
        x.list(1, 2, 0);
        x.load(0, 1);
        x.go(0);
        CHECK.due("one goes", x.playback(0, 3), 1);
        x.tick(1);
        CHECK.due("it goes", x.value(0, 0, 1), 30);
        CHECK.due("this one stays", x.value(0, 0, 2), 40);
        x.tick(1);
        CHECK.due("it ended", x.value(0, 0, 1), 0);
        CHECK.due("this one stays", x.value(0, 0, 2), 40);
        CHECK.due("none goes", x.playback(0, 3), 0);
    }

    /** 24 SCREENS; PLAYBACK 0 has begun to fade all 72 CHANNELS to 200 in t ticks. */
    private static CueBoard all(int t) {
        CueBoard x = new CueBoard();
        x.load(0, 0);
        for (int f = 0; f < 24; f++) {
            x.fixture(3, 0);
            for (int c = 0; c < 3; c++) {
                x.entry(f / 4, f, c, 200, t);
            }
        }
        for (int cue = 0; cue < 6; cue++) {
            x.list(0, cue, 0);
            x.go(0);
        }
        return x;
    }

    /** All FADES stop where they are: how many went. BAD. */
    private static void stoppingNoneAndAll() {
        EDGES.taken("four went", Rigs.LIVELY, 4, "stop", 0);
        EDGES.taken("three went", Rigs.LIVELY, 3, "stop", 1);
        EDGES.taken("none went", Rigs.LIVELY, 0, "stop", 2);
        EDGES.taken("none went", Rigs.LIVELY, 0, "stop", 3);
        CueBoard x = all(4);
        CHECK.due("72 go", x.playback(0, 3), 72);
        x.tick(1);
        CHECK.due("72 went", x.stop(0), 72);
        CHECK.due("none goes", x.playback(0, 3), 0);
        CHECK.due("none went", x.stop(0), 0);
        CHECK.due("all CHANNELS stay", x.playback(0, 6), 72);
        x.tick(4);
        CHECK.due("where the first was", x.value(0, 0, 0), 50);
        CHECK.due("where the last was", x.value(0, 23, 2), 50);
        CueBoard y = all(4);
        y.tick(4);
        CHECK.due("all have ended", y.stop(0), 0);
        CueBoard z = all(0);
        CHECK.due("none began to go", z.stop(0), 0);
    }

    /** No CHANNELS any more, its PLACE is -1: how many it had. BAD. */
    private static void releasingNoneAndAll() {
        EDGES.taken("it had five", Rigs.LIVELY, 5, "release", 0);
        EDGES.taken("it had four", Rigs.LIVELY, 4, "release", 1);
        EDGES.taken("it had none", Rigs.LIVELY, 0, "release", 2);
        EDGES.taken("it had none", Rigs.LIVELY, 0, "release", 3);
        for (int t : new int[] {0, 100}) {
            CueBoard x = all(t);
            x.tick(1);
            CHECK.due("it has 72", x.playback(0, 6), 72);
            CHECK.due("it had 72", x.release(0), 72);
            CHECK.due("it has none", x.playback(0, 6), 0);
            CHECK.due("no FADE goes", x.playback(0, 3), 0);
            CHECK.due("PLACE", x.playback(0, 1), -1);
            CHECK.due("LIST", x.playback(0, 0), 0);
            CHECK.due("no VALUE", x.value(0, 0, 0), NONE);
            CHECK.due("no VALUE", x.value(0, 23, 2), NONE);
            CHECK.due("it had none", x.release(0), 0);
            CHECK.due("the first again", x.go(0), 0);
            CHECK.due("it has 12", x.playback(0, 6), 12);
            CHECK.due("from 0", x.value(0, 0, 0), t == 0 ? 200 : 0);
        }
    }

    /** MASTER of a PLAYBACK (p NONE: GRAND) becomes m (0 .. 100): what it was. BAD. */
    private static void masterNumbers() {
        for (int p = NONE; p < 4; p++) {
            EDGES.between("m 0 .. 100", Rigs.NEW, 100, 1, 0, 100, "master", p, 0);
        }
        EDGES.between("m 0 .. 100", Rigs.LIVELY, 90, 1, 0, 100, "master", NONE, 0);
        EDGES.between("m 0 .. 100", Rigs.LIVELY, 80, 1, 0, 100, "master", 1, 0);
        CueBoard x = new CueBoard();
        CHECK.due("at first", x.master(0, 0), 100);
        CHECK.due("then", x.master(0, 100), 0);
        CHECK.due("GRAND is another one", x.told(4), 100);
        CHECK.due("at first", x.master(NONE, 0), 100);
        CHECK.due("GRAND", x.told(4), 0);
        CHECK.due("then", x.master(NONE, 100), 0);
        CHECK.due("MASTER is another one", x.playback(0, 2), 100);
    }

    /** A STROBE on LINE 0 at v (LEVEL and RATE) in PLAYBACK 0. */
    private static CueBoard strobe(int v) {
        CueBoard x = new CueBoard();
        x.line(0, 2);
        x.fixture(1, 0);
        x.patch(0, 0, 0);
        x.entry(0, 0, 0, v, 0);
        x.entry(0, 0, 1, v, 0);
        x.list(0, 0, 0);
        x.load(0, 0);
        x.go(0);
        return x;
    }

    /** Of DIMMING ones each times MASTER by 100, cut; DIMMING ones are times GRAND by 100, cut. */
    private static void mastersCut() {
        // v, MASTER, GRAND, then what comes
        int[][] rows = {{255, 100, 100, 255}, {255, 99, 100, 252}, {255, 100, 99, 252}, {255, 99, 99, 249},
            {255, 1, 100, 2}, {255, 100, 1, 2}, {255, 1, 1, 0}, {255, 0, 100, 0}, {255, 100, 0, 0}, {1, 99, 100, 0},
            {1, 100, 99, 0}, {1, 100, 100, 1}, {0, 100, 100, 0}, {199, 50, 50, 49}, {3, 50, 100, 1}, {3, 34, 99, 0}};
        for (int[] row : rows) {
            CueBoard x = strobe(row[0]);
            x.master(0, row[1]);
            x.master(NONE, row[2]);
            x.tick(1);
            CHECK.due(row[0] + " at " + row[1] + ", " + row[2], x.at(0, 0), row[3]);
            CHECK.due("RATE is not DIMMING", x.at(0, 1), row[0]);
            CHECK.due("its VALUE stays", x.value(0, 0, 0), row[0]);
        }
    }

    /** A CHANNEL is MERGED: 1. BAD; SORT: no such CHANNEL. */
    private static void mergeNumbers() {
        for (int latest = 0; latest < 2; latest++) {
            EDGES.between("FIXTURES", Rigs.LIVELY, 1, 0, 0, 7, "merge", 0, 0, latest);
            EDGES.between("CHANNELS", Rigs.LIVELY, 1, 1, 0, 2, "merge", 3, 0, latest);
            EDGES.still("no such CHANNEL", Rigs.LIVELY, SORT, "merge", 0, 1, latest);
            EDGES.still("no such CHANNEL", Rigs.LIVELY, SORT, "merge", 1, 2, latest);
            EDGES.still("of a GROUP", Rigs.LIVELY, SORT, "merge", 5, 0, latest);
        }
    }

    /** PLAYBACKS 0 to 3 with LISTS 0 to 3, of one CUE each, that set the DIMMER on LINE 0 to these values. */
    private static CueBoard four(int... values) {
        CueBoard x = new CueBoard();
        x.line(0, 1);
        x.fixture(0, 0);
        x.patch(0, 0, 0);
        for (int p = 0; p < 4; p++) {
            x.entry(p, 0, 0, values[p], 0);
            x.list(p, p, 0);
            x.load(p, p);
        }
        return x;
    }

    /** MERGED: the greatest; 0 without any. */
    private static void mergedOfNoneAndAll() {
        for (int latest = 0; latest < 2; latest++) {
            CueBoard x = four(0, 0, 0, 0);
            x.merge(0, 0, latest == 1);
            x.tick(1);
            CHECK.due("0 without any", x.at(0, 0), 0);
            x.go(3);
            x.tick(1);
            CHECK.due("0 is one", x.at(0, 0), 0);
        }
        for (int greatest = 0; greatest < 4; greatest++) {
            int[] values = {3, 3, 3, 3};
            values[greatest] = 255;
            CueBoard x = four(values);
            for (int p = 0; p < 4; p++) {
                x.go(p);
            }
            x.tick(1);
            CHECK.due("the greatest, of " + greatest, x.at(0, 0), 255);
            x.master(greatest, 0);
            x.tick(1);
            CHECK.due("as mastered", x.at(0, 0), 3);
            x.release(greatest);
            x.tick(1);
            CHECK.due("of those that have it", x.at(0, 0), 3);
        }
    }

    /** That of the PLAYBACK, of those that have it, whose FADE of it began last (one of 0 ticks begins, too). */
    private static void mergedByTheLatest() {
        int[][] orders = {{0, 1, 2, 3}, {3, 2, 1, 0}, {1, 3, 0, 2}, {2, 0, 3, 1}};
        for (int[] order : orders) {
            CueBoard x = four(11, 12, 13, 14);
            x.merge(0, 0, true);
            for (int p : order) {
                x.go(p);
                x.tick(1);
                CHECK.due("the latest", x.at(0, 0), 11 + p);
            }
            for (int i = 3; i > 0; i--) {
                x.release(order[i]);
                x.tick(1);
                CHECK.due("the latest that is left", x.at(0, 0), 11 + order[i - 1]);
            }
            x.release(order[0]);
            x.tick(1);
            CHECK.due("none is left", x.at(0, 0), 0);
        }
        CueBoard y = four(200, 100, 0, 0);
        y.merge(0, 0, true);
        y.go(1);
        y.go(0);
        y.master(0, 0);
        y.tick(1);
        CHECK.due("the latest, though it is mastered to 0", y.at(0, 0), 0);
        y.merge(0, 0, false);
        y.tick(1);
        CHECK.due("the greatest again", y.at(0, 0), 100);
    }

    /** Each CHANNEL for itself. */
    private static void mergedByChannels() {
        for (int c = 0; c < 3; c++) {
            CueBoard x = new CueBoard();
            x.line(0, 6);
            for (int f = 0; f < 2; f++) {
                x.fixture(3, 0);
                x.patch(f, 0, 3 * f);
                for (int i = 0; i < 3; i++) {
                    x.entry(0, f, i, 90, 0);
                    x.entry(1, f, i, 40, 0);
                }
            }
            for (int p = 0; p < 2; p++) {
                x.list(p, p, 0);
                x.load(p, p);
                x.go(p);
            }
            x.merge(1, c, true);
            x.tick(1);
            for (int i = 0; i < 6; i++) {
                CHECK.due("by the latest is " + c + " alone: " + i, x.at(0, i), i == 3 + c ? 40 : 90);
            }
        }
    }

    /** The VALUE of a CHANNEL in a PLAYBACK; NONE: it has none. BAD; SORT. */
    private static void valueNumbers() {
        EDGES.between("FIXTURES", Rigs.LIVELY, NONE, 1, 0, 7, "value", 3, 0, 0);
        EDGES.between("channels", Rigs.LIVELY, NONE, 2, 0, 2, "value", 3, 4, 0);
        EDGES.still("0 is one", Rigs.LIVELY, 255, "value", 0, 3, 1);
        EDGES.still("it has none", Rigs.LIVELY, NONE, "value", 0, 3, 2);
        EDGES.still("no such CHANNEL", Rigs.LIVELY, SORT, "value", 0, 0, 1);
        EDGES.still("no such CHANNEL", Rigs.LIVELY, SORT, "value", 3, 1, 2);
        EDGES.still("of a GROUP", Rigs.LIVELY, SORT, "value", 0, 5, 0);
        EDGES.still("BAD ahead of SORT", Rigs.LIVELY, BAD, "value", 4, 0, 1);
        EDGES.still("BAD ahead of SORT", Rigs.LIVELY, BAD, "value", 0, 5, 3);
        CueBoard x = fade(0, 65535, 0);
        CHECK.due("the greatest", x.value(0, 0, 0), 65535);
        CHECK.due("it has none", x.value(0, 0, 1), NONE);
        CHECK.due("in another PLAYBACK", x.value(1, 0, 0), NONE);
        CueBoard y = fade(65535, 0, 0);
        CHECK.due("0 is one", y.value(0, 0, 0), 0);
    }

    /** Of a PLAYBACK: 0 LIST to 6 CHANNELS. BAD. */
    private static void whatOfAPlayback() {
        int[][] want = {{0, 0, 100, 4, 4, 4, 5}, {1, 0, 80, 3, 4, 4, 4}, {2, -1, 100, 0, 3, 3, 0},
            {NONE, -1, 100, 0, 3, 3, 0}};
        for (int p = 0; p < 4; p++) {
            for (int what = 0; what < 7; what++) {
                EDGES.still("0 .. 6", Rigs.LIVELY, want[p][what], "playback", p, what);
            }
            for (int what : new int[] {-1, 7, MIN, MAX}) {
                EDGES.still("0 .. 6", Rigs.LIVELY, BAD, "playback", p, what);
            }
        }
    }

    /** ENTRIES and LEAVINGS count the ACTS of each TICK, and each go() that was not refused. */
    private static void actsAreCounted() {
        CueBoard x = four(1, 2, 3, 4);
        for (int p = 0; p < 4; p++) {
            x.go(p);
            x.go(p);
            x.go(4);
            CHECK.due("one go() of two", x.playback(p, 4), 1);
            CHECK.due("one go() of two", x.playback(p, 5), 1);
        }
        x.tick(0);
        x.tick(6);
        CHECK.due("no TICK went", x.playback(0, 4), 1);
        x.tick(5);
        for (int p = 0; p < 4; p++) {
            CHECK.due("each of five TICKS", x.playback(p, 4), 6);
            CHECK.due("each of five TICKS", x.playback(p, 5), 6);
        }
        x.release(0);
        x.stop(1);
        x.load(2, NONE);
        CHECK.due("no ACT", x.playback(0, 4) + x.playback(1, 4) + x.playback(2, 4), 18);
    }
}
