/** The order of the answers ("the first that fits; then a FINDING"), and the order of what a TICK does (part 6). */
public final class OrderTest {
    private static final int NONE = CueBoard.NONE, BAD = CueBoard.BAD, FULL = CueBoard.FULL;
    private static final int NOTHING = -11, SORT = -13, BEYOND = -12, STORE = -16;
    private static final int ENDLESS = 0x7F800000;
    private static final Check CHECK = new Check();
    private static final Edges EDGES = new Edges(CHECK);

    public static void main(String[] args) {
        badAheadOfNo();
        badAheadOfFull();
        badAheadOfFindings();
        fullAheadOfFewer();
        findingsInTheirOrder();
        fadesThenWhatFollows();
        whatFollowsIsSeenInItsTick();
        playbacksByNumbers();
        masterThenMerged();
        grandThenBent();
        bentThenMost();
        mostThenHeat();
        heatThenBlackout();
        writtenThenDigested();
        CHECK.end();
    }

    // ---- answers

    /** BAD, NO: the first that fits. */
    private static void badAheadOfNo() {
        String why = "BAD ahead of NO";
        EDGES.still(why, Rigs.NEW, BAD, "back", 51);
        EDGES.still(why, Rigs.NEW, BAD, "back", -1);
        EDGES.still(why, Rigs.BOOK_121, BAD, "back", 51);
        EDGES.still(why, Rigs.BOOK_121, BAD, "back", -1);
    }

    /** BAD, FULL: the first that fits. */
    private static void badAheadOfFull() {
        String why = "BAD ahead of FULL";
        EDGES.still(why, Rigs.FIXTURES_24, BAD, "fixture", 4, 0);
        EDGES.still(why, Rigs.FIXTURES_24, BAD, "fixture", 0, 101);
        EDGES.still(why, Rigs.FIXTURES_24, BAD, "group", 3, 0);
        EDGES.still(why, Rigs.FIXTURES_24, BAD, "group", 0, 7);
        EDGES.still(why, Rigs.GROUPS_3, BAD, "group", -1, 0);
        EDGES.still(why, Rigs.GROUPS_3, BAD, "group", 0, 7);
        EDGES.still(why, Rigs.POINTS_8, BAD, "point", 3, 201, 0);
        EDGES.still(why, Rigs.POINTS_8, BAD, "point", 3, 256, 0);
        EDGES.still(why, Rigs.POINTS_8, BAD, "point", 3, 202, ENDLESS);
        EDGES.still(why, Rigs.ENTRIES_12, BAD, "entry", 15, 8, 0, 0, 0);
        EDGES.still(why, Rigs.ENTRIES_12, BAD, "entry", 15, 0, 3, 0, 0);
        EDGES.still(why, Rigs.ENTRIES_12, BAD, "entry", 15, 0, 0, 65536, 0);
        EDGES.still(why, Rigs.ENTRIES_12, BAD, "entry", 15, 0, 0, 0, 101);
        EDGES.still(why, Rigs.CUES_8, BAD, "list", 3, 16, 0);
        EDGES.still(why, Rigs.CUES_8, BAD, "list", 3, 0, 51);
        EDGES.still(why, Rigs.TICKS_2000, BAD, "tick", 6);
        EDGES.still(why, Rigs.TICKS_2000, BAD, "tick", 0);
    }

    /** Then a FINDING. */
    private static void badAheadOfFindings() {
        String why = "BAD ahead of a FINDING";
        EDGES.still(why, Rigs.LIVELY, BAD, "line", 4, -1);
        EDGES.still(why, Rigs.LIVELY, BAD, "at", 4, 99);
        EDGES.still(why, Rigs.LIVELY, BAD, "wide", -1, -1);
        EDGES.still(why, Rigs.LIVELY, BAD, "group", 3, -1);
        EDGES.still(why, Rigs.LIVELY, BAD, "asks", 5, 4);
        EDGES.still(why, Rigs.LIVELY, BAD, "patch", 5, 4, 0);
        EDGES.still(why, Rigs.LIVELY, BAD, "patch", 5, 0, 64);
        EDGES.still(why, Rigs.LIVELY, BAD, "bend", 2, 0, 4);
        EDGES.still(why, Rigs.LIVELY, BAD, "bend", 0, 1, 4);
        EDGES.still(why, Rigs.LIVELY, BAD, "bend", 5, 3, 0);
        EDGES.still(why, Rigs.LIVELY, BAD, "merge", 5, 3, 0);
        EDGES.still(why, Rigs.LIVELY, BAD, "value", 4, 0, 1);
        EDGES.still(why, Rigs.LIVELY, BAD, "value", 0, 5, 3);
    }

    /** FULL, then a FINDING. */
    private static void fullAheadOfFewer() {
        EDGES.still("FULL ahead of FEWER", Rigs.GROUPS_3, FULL, "group", 0, -1);
        EDGES.still("FULL ahead of FEWER", Rigs.FIXTURES_24, FULL, "group", 0, -1);
    }

    /** at, wide: NOTHING; BEYOND. member: BAD; SORT; BEYOND; STORE (in this order). memberAt: SORT, not NONE. */
    private static void findingsInTheirOrder() {
        EDGES.still("PULLED", Rigs.LIVELY, NOTHING, "at", 2, 3);
        EDGES.still("never told", Rigs.LIVELY, NOTHING, "at", 3, -1);
        EDGES.still("PULLED", Rigs.LIVELY, NOTHING, "wide", 2, 2);
        EDGES.still("never told", Rigs.LIVELY, NOTHING, "wide", 3, 64);
        EDGES.still("BAD ahead of SORT", Rigs.LIVELY, BAD, "member", 4, 0, 4);
        EDGES.still("BAD ahead of BEYOND", Rigs.LIVELY, BAD, "member", 5, 4, 5);
        EDGES.still("BAD ahead of STORE", Rigs.LIVELY, BAD, "member", 6, 0, 7);
        EDGES.still("SORT ahead of BEYOND", Rigs.LIVELY, SORT, "member", 4, 6, 0);
        EDGES.still("BEYOND ahead of STORE", Rigs.LIVELY, BEYOND, "member", 6, 2, 2);
        EDGES.still("STORE at last", Rigs.LIVELY, STORE, "member", 6, 1, 2);
        EDGES.still("SORT ahead of NONE", Rigs.LIVELY, SORT, "memberAt", 0, 9);
    }

    // ---- a TICK

    /** A FIXTURE of a KIND with n on LINE 0, whose CHANNEL c is at v in PLAYBACK 0. */
    private static CueBoard lit(int kind, int n, int c, int v) {
        CueBoard x = new CueBoard();
        x.line(0, 8);
        x.fixture(kind, n);
        x.patch(0, 0, 0);
        x.entry(0, 0, c, v, 0);
        x.list(0, 0, 0);
        x.load(0, 0);
        x.go(0);
        return x;
    }

    /** Its FADES go one tick on; then if its CUE has a FOLLOW ... it GOES. */
    private static void fadesThenWhatFollows() {
        CueBoard x = new CueBoard();
        x.line(0, 1);
        x.fixture(0, 0);
        x.patch(0, 0, 0);
        x.entry(0, 0, 0, 100, 4);
        x.entry(1, 0, 0, 200, 5);
        x.list(0, 0, 2);
        x.list(0, 1, 0);
        x.load(0, 0);
        x.go(0);
        x.tick(1);
        CHECK.due("a quarter", x.at(0, 0), 25);
        x.tick(1);
        CHECK.due("it GOES", x.playback(0, 1), 1);
        CHECK.due("a half, from which the next FADE begins", x.value(0, 0, 0), 50);
        CHECK.due("and that is written", x.at(0, 0), 50);
        CHECK.due("one in place of the other", x.playback(0, 3), 1);
        x.tick(1);
        CHECK.due("its first tick is the next one", x.at(0, 0), 80);
        x.tick(4);
        CHECK.due("its fifth tick ends it", x.at(0, 0), 200);
        CHECK.due("none goes", x.playback(0, 3), 0);
    }

    /** Then each CHANNEL ...: what a CUE that FOLLOWS sets in 0 ticks is written in that TICK. */
    private static void whatFollowsIsSeenInItsTick() {
        CueBoard x = lit(0, 0, 0, 10);
        x.entry(1, 0, 0, 77, 0);
        x.list(1, 0, 1);
        x.list(1, 1, 0);
        x.load(0, 1);
        x.go(0);
        CHECK.due("before", x.value(0, 0, 0), 10);
        x.tick(1);
        CHECK.due("in its TICK", x.at(0, 0), 77);
    }

    /** PLAYBACKS by numbers: of those that GO in one TICK the last one's FADES begin last. */
    private static void playbacksByNumbers() {
        CueBoard x = new CueBoard();
        x.line(0, 1);
        x.fixture(0, 0);
        x.patch(0, 0, 0);
        x.merge(0, 0, true);
        for (int p = 0; p < 4; p++) {
            x.entry(p, 0, 0, 90 - 20 * p, 0);
            x.list(p, 15, 1);
            x.list(p, p, 0);
            x.list(p, p, 0);
            x.load(p, p);
        }
        for (int p = 3; p >= 0; p--) {
            x.go(p);
        }
        x.tick(1);
        CHECK.due("that of PLAYBACK 3", x.at(0, 0), 30);
        x.release(3);
        x.tick(1);
        CHECK.due("that of PLAYBACK 2", x.at(0, 0), 50);
        x.go(0);
        x.tick(1);
        CHECK.due("a go() behind it is later", x.at(0, 0), 90);
    }

    /** Its VALUES, of DIMMING ones each times MASTER by 100, cut; MERGED: the greatest. */
    private static void masterThenMerged() {
        CueBoard x = new CueBoard();
        x.line(0, 2);
        x.fixture(1, 0);
        x.patch(0, 0, 0);
        for (int p = 0; p < 2; p++) {
            x.entry(p, 0, 0, 100 - 40 * p, 0);
            x.entry(p, 0, 1, 100 - 40 * p, 0);
            x.list(p, p, 0);
            x.load(p, p);
            x.go(p);
        }
        x.master(0, 59);
        x.tick(1);
        CHECK.bytes("60 is above 59; RATE has no MASTER", x, 0, 60, 100);
        x.master(0, 61);
        x.tick(1);
        CHECK.bytes("61 is above 60", x, 0, 61, 100);
    }

    /** DIMMING ones are times GRAND by 100, cut. What has a CURVE is BENT. */
    private static void grandThenBent() {
        CueBoard x = lit(1, 0, 0, 200);
        x.entry(1, 0, 1, 200, 0);
        x.list(0, 1, 0);
        x.go(0);
        x.point(0, 100, Float.floatToIntBits(10));
        x.point(0, 200, Float.floatToIntBits(90));
        x.bend(0, 0, 0);
        x.bend(0, 1, 0);
        x.master(NONE, 50);
        x.tick(1);
        CHECK.bytes("a half of 200 is BENT to 10; RATE has no GRAND", x, 0, 10, 90);
        x.master(NONE, 0);
        x.tick(1);
        CHECK.bytes("0 is BENT, too", x, 0, 10, 90);
    }

    /** What has a CURVE is BENT. DIMMING ones are at most MOST of the FIXTURE. */
    private static void bentThenMost() {
        CueBoard x = lit(3, 100, 0, 250);
        x.point(0, 200, Float.floatToIntBits(10));
        x.point(0, 250, Float.floatToIntBits(60));
        x.point(1, 0, Float.floatToIntBits(255));
        x.bend(0, 0, 0);
        x.tick(1);
        CHECK.due("250 is BENT, not 200", x.at(0, 0), 60);
        x.bend(0, 0, 1);
        x.tick(1);
        CHECK.due("BENT to 255, at most 200", x.at(0, 0), 200);
        x.bend(0, 0, NONE);
        x.tick(1);
        CHECK.due("at most 200", x.at(0, 0), 200);
    }

    /** At most MOST of the FIXTURE. Then HEAT of each LINE. */
    private static void mostThenHeat() {
        CueBoard x = lit(2, 100, 2, 255);
        x.tick(1);
        CHECK.due("MOST", x.at(0, 4), 200);
        CHECK.due("200 times 200 by 255", x.heat(0), 156);
        x.limit(0, 156);
        x.tick(1);
        CHECK.due("not above it", x.at(0, 4), 200);
        x.limit(0, 155);
        x.tick(1);
        // 200 * 198 / 255 = 155, 200 * 199 / 255 = 156
        CHECK.due("cut", x.at(0, 4), 198);
        CHECK.due("as cut", x.heat(0), 155);
    }

    /** In a BLACKOUT all DIMMING ones are 0 then (HEAT in a BLACKOUT as cut before it). */
    private static void heatThenBlackout() {
        CueBoard x = lit(1, 0, 0, 255);
        x.entry(1, 0, 1, 200, 0);
        x.list(0, 1, 0);
        x.go(0);
        x.limit(0, 10);
        x.blackout(true);
        x.tick(1);
        CHECK.bytes("dark, but for RATE", x, 0, 0, 200);
        CHECK.due("as cut before it", x.heat(0), 10);
        CHECK.due("not above it", x.over(0), 0);
        x.firm(0, true);
        x.tick(1);
        CHECK.due("not cut", x.heat(0), 20);
        CHECK.due("above it, dark as it is", x.over(0), 1);
        x.point(0, 0, Float.floatToIntBits(50));
        x.bend(0, 0, 0);
        x.bend(0, 1, 0);
        x.tick(1);
        CHECK.bytes("0 is not BENT any more", x, 0, 0, 50);
    }

    /** At the end of each TICK: THE DIGEST has the bytes of that TICK, each TICK of a call by itself. */
    private static void writtenThenDigested() {
        CueBoard x = new CueBoard();
        x.line(0, 1);
        x.fixture(0, 0);
        x.patch(0, 0, 0);
        x.entry(0, 0, 0, 30, 3);
        x.list(0, 0, 0);
        x.load(0, 0);
        x.go(0);
        x.tick(1);
        CHECK.due("10", x.digest(), 10);
        x.tick(2);
        CHECK.due("20, then 30", x.digest(), (10 * 31 + 20) * 31 + 30);
    }
}
