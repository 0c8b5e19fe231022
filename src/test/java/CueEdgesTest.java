/** The edges of CUES and LISTS: part 5 of the document's terms, and promises 20 to 23; what FOLLOWS (part 6). */
public final class CueEdgesTest {
    private static final int NONE = CueBoard.NONE, BAD = CueBoard.BAD, NO = CueBoard.NO, FULL = CueBoard.FULL;
    private static final int MIN = Integer.MIN_VALUE, MAX = Integer.MAX_VALUE;
    private static final Check CHECK = new Check();
    private static final Edges EDGES = new Edges(CHECK);

    public static void main(String[] args) {
        entryNumbers();
        entriesAtMost();
        valuesThatFit();
        listNumbers();
        cuesAtMost();
        loading();
        loadingChangesThePlaceAlone();
        going();
        goingThroughAList();
        goingFindsSort();
        emptyAndFullCues();
        followsAtItsTick();
        followZeroIsNone();
        followsThroughAList();
        aNextOneIsThere();
        countedSinceItBegan();
        CHECK.end();
    }

    /** BAD: CUE (0 .. 15), FIXTURE, channel (0 .. 2), value (0 .. 65535), ticks (0 .. 100). */
    private static void entryNumbers() {
        EDGES.between("CUES 0 .. 15", Rigs.NEW_DIMMER, 1, 0, 0, 15, "entry", 0, 0, 0, 0, 0);
        EDGES.between("FIXTURES 0 .. 7", Rigs.LIVELY, 1, 1, 0, 7, "entry", 9, 0, 0, 0, 0);
        EDGES.between("channels 0 .. 2", Rigs.LIVELY, 1, 2, 0, 2, "entry", 9, 0, 0, 0, 0);
        EDGES.between("values 0 .. 65535", Rigs.LIVELY, 1, 3, 0, 65535, "entry", 9, 0, 0, 0, 0);
        EDGES.between("values 0 .. 65535, of a GROUP", Rigs.LIVELY, 1, 3, 0, 65535, "entry", 9, 5, 2, 0, 0);
        EDGES.between("ticks 0 .. 100", Rigs.LIVELY, 1, 4, 0, 100, "entry", 9, 2, 0, 65535, 0);
        for (int cue : new int[] {-1, 16, MIN, MAX}) {
            EDGES.still("no such CUE", Rigs.LIVELY, BAD, "entry", cue, 0, 0, 0, 0);
        }
    }

    /** ENTRIES, 12 at most: how many. FULL. */
    private static void entriesAtMost() {
        EDGES.taken("a twelfth", Rigs.ENTRIES_11, 12, "entry", 15, 0, 0, 0, 0);
        EDGES.still("a 13th", Rigs.ENTRIES_12, FULL, "entry", 15, 0, 0, 0, 0);
        EDGES.still("a 13th", Rigs.ENTRIES_12, FULL, "entry", 15, 7, 2, 65535, 100);
        EDGES.still("BAD ahead of FULL", Rigs.ENTRIES_12, BAD, "entry", 15, 8, 0, 0, 0);
        EDGES.still("BAD ahead of FULL", Rigs.ENTRIES_12, BAD, "entry", 15, 0, 3, 0, 0);
        EDGES.still("BAD ahead of FULL", Rigs.ENTRIES_12, BAD, "entry", 15, 0, 0, 65536, 0);
        EDGES.still("BAD ahead of FULL", Rigs.ENTRIES_12, BAD, "entry", 15, 0, 0, 0, 101);
        EDGES.taken("another CUE", Rigs.ENTRIES_12, 1, "entry", 14, 0, 0, 0, 0);
        CueBoard x = new CueBoard();
        x.fixture(2, 0);
        for (int i = 1; i <= 12; i++) {
            CHECK.due("how many", x.entry(0, 0, 0, 1000 * i, 0), i);
        }
        CHECK.due("a 13th", x.entry(0, 0, 0, 1, 0), FULL);
        CHECK.due("a new CUE's first", x.entry(1, 0, 0, 5, 0), 1);
        x.list(0, 0, 0);
        x.load(0, 0);
        x.go(0);
        CHECK.due("the twelfth is the last", x.value(0, 0, 0), 12000);
    }

    /** Values are 0 .. 255, of wide ones 0 .. 65535; the value (255 at most of what is not wide). */
    private static void valuesThatFit() {
        int[] values = {0, 1, 254, 255, 256, 257, 65534, 65535};
        for (int value : values) {
            for (int ticks : new int[] {0, 1}) {
                CueBoard x = new CueBoard();
                x.fixture(2, 0);
                for (int c = 0; c < 3; c++) {
                    x.entry(0, 0, c, value, ticks);
                }
                x.list(0, 0, 0);
                x.load(0, 0);
                x.go(0);
                x.tick(1);
                CHECK.due("PAN", x.value(0, 0, 0), value);
                CHECK.due("TILT", x.value(0, 0, 1), value);
                CHECK.due("LEVEL", x.value(0, 0, 2), Math.min(value, 255));
            }
        }
    }

    /** LISTS 0 .. 3 have CUES (0 .. 15), each with a FOLLOW (0 none, else 1 .. 50 TICKS). BAD. */
    private static void listNumbers() {
        EDGES.between("LISTS 0 .. 3", Rigs.NEW, 1, 0, 0, 3, "list", 0, 0, 0);
        EDGES.between("CUES 0 .. 15", Rigs.LIVELY, 4, 1, 0, 15, "list", 0, 0, 0);
        EDGES.between("FOLLOW 0 .. 50", Rigs.LIVELY, 4, 2, 0, 50, "list", 0, 0, 0);
        for (int list : new int[] {-1, 4, MIN, MAX}) {
            EDGES.still("no such LIST", Rigs.LIVELY, BAD, "list", list, 0, 0);
        }
    }

    /** CUES, 8 at most: how many. FULL. */
    private static void cuesAtMost() {
        EDGES.taken("an eighth", Rigs.CUES_7, 8, "list", 3, 0, 0);
        EDGES.still("a ninth", Rigs.CUES_8, FULL, "list", 3, 0, 0);
        EDGES.still("a ninth", Rigs.CUES_8, FULL, "list", 3, 15, 50);
        EDGES.still("BAD ahead of FULL", Rigs.CUES_8, BAD, "list", 3, 16, 0);
        EDGES.still("BAD ahead of FULL", Rigs.CUES_8, BAD, "list", 3, -1, 0);
        EDGES.still("BAD ahead of FULL", Rigs.CUES_8, BAD, "list", 3, 0, 51);
        EDGES.still("BAD ahead of FULL", Rigs.CUES_8, BAD, "list", 3, 0, -1);
        EDGES.taken("another LIST", Rigs.CUES_8, 2, "list", 2, 0, 0);
    }

    /** A PLAYBACK (0 .. 3) has a LIST (0 .. 3, NONE: none). BAD. */
    private static void loading() {
        EDGES.between("PLAYBACKS 0 .. 3", Rigs.NEW, 1, 0, 0, 3, "load", 0, 0);
        EDGES.between("PLAYBACKS 0 .. 3", Rigs.LIVELY, 1, 0, 0, 3, "load", 0, NONE);
        EDGES.between("LISTS 0 .. 3, NONE: none", Rigs.NEW, 1, 1, NONE, 3, "load", 0, 0);
        for (int p = 0; p < 4; p++) {
            EDGES.between("LISTS 0 .. 3, NONE: none", Rigs.LIVELY, 1, 1, NONE, 3, "load", p, 0);
        }
    }

    /** Its PLACE is -1; its CHANNELS stay. */
    private static void loadingChangesThePlaceAlone() {
        for (int list : new int[] {NONE, 0, 3}) {
            CueBoard x = new CueBoard();
            x.fixture(0, 0);
            x.entry(0, 0, 0, 100, 10);
            x.list(0, 0, 1);
            x.list(0, 1, 0);
            x.load(0, 0);
            x.go(0);
            CHECK.due("load", x.load(0, list), 1);
            CHECK.due("its LIST", x.playback(0, 0), list);
            CHECK.due("its PLACE", x.playback(0, 1), -1);
            CHECK.due("its FADES go", x.playback(0, 3), 1);
            CHECK.due("its CHANNELS stay", x.playback(0, 6), 1);
            x.tick(1);
            CHECK.due("nothing FOLLOWS", x.playback(0, 1), -1);
            CHECK.due("its FADES go", x.value(0, 0, 0), 10);
            CHECK.due("GO", x.go(0), list == 0 ? 0 : NO);
        }
    }

    /** GO: the CUE that begins. BAD; NO: no LIST, or no next one. */
    private static void going() {
        EDGES.between("PLAYBACKS 0 .. 3", Rigs.LOADED, 15, 0, 0, 3, "go", 0);
        for (int p = 0; p < 4; p++) {
            EDGES.still("no LIST", Rigs.NEW, NO, "go", p);
        }
        EDGES.still("no LIST", Rigs.LIVELY, NO, "go", 3);
        Rigs.Rig empty = x -> {
            Rigs.LIVELY.set(x);
            x.call("load", 3, 3);
        };
        EDGES.still("a LIST of no CUES", empty, NO, "go", 3);
        Rigs.Rig unloaded = x -> {
            Rigs.LIVELY.set(x);
            x.call("load", 0, NONE);
        };
        EDGES.still("no LIST any more", unloaded, NO, "go", 0);
        Rigs.Rig ended = x -> {
            Rigs.LIVELY.set(x);
            x.call("go", 2);
        };
        EDGES.taken("the only one", Rigs.LIVELY, 1, "go", 2);
        EDGES.still("no next one", ended, NO, "go", 2);
        for (int p : new int[] {-1, 4, MIN, MAX}) {
            EDGES.still("BAD ahead of NO", ended, BAD, "go", p);
        }
    }

    /** PLACE (-1 at first): the next one, up to the eighth. */
    private static void goingThroughAList() {
        CueBoard x = new CueBoard();
        for (int i = 0; i < 8; i++) {
            x.list(3, 15 - i, 0);
        }
        x.load(3, 3);
        CHECK.due("at first", x.playback(3, 1), -1);
        for (int i = 0; i < 8; i++) {
            CHECK.due("GO", x.go(3), 15 - i);
            CHECK.due("PLACE", x.playback(3, 1), i);
        }
        for (int i = 0; i < 3; i++) {
            CHECK.due("no next one", x.go(3), NO);
            CHECK.due("PLACE", x.playback(3, 1), 7);
        }
        CHECK.due("ENTRIES: not of those that were refused", x.playback(3, 4), 8);
        CHECK.due("LEAVINGS: not of those that were refused", x.playback(3, 5), 8);
        x.release(3);
        CHECK.due("from the first again", x.go(3), 15);
        x.load(3, 3);
        CHECK.due("from the first again", x.go(3), 15);
        CueBoard y = new CueBoard();
        y.list(0, 4, 0);
        y.load(0, 0);
        y.go(0);
        CHECK.due("no next one", y.go(0), NO);
        y.list(0, 5, 0);
        CHECK.due("one came", y.go(0), 5);
        CHECK.due("its PLACE", y.playback(0, 1), 1);
    }

    /** One that has no such CHANNEL finds SORT, and is passed over (go() is not refused then). */
    private static void goingFindsSort() {
        CueBoard x = new CueBoard();
        for (int kind = 0; kind < 4; kind++) {
            x.fixture(kind, 0);
            for (int c = 0; c < 3; c++) {
                x.entry(kind, kind, c, 9, c);
            }
            x.list(0, kind, 0);
        }
        x.load(0, 0);
        int[] sorts = {2, 3, 3, 3};
        int[] channels = {1, 3, 6, 9};
        for (int cue = 0; cue < 4; cue++) {
            CHECK.due("the CUE that begins", x.go(0), cue);
            CHECK.due("SORT", x.found(3), sorts[cue]);
            CHECK.due("CHANNELS", x.playback(0, 6), channels[cue]);
            CHECK.due("ENTRIES", x.playback(0, 4), cue + 1);
        }
        CueBoard y = new CueBoard();
        y.fixture(0, 0);
        y.entry(0, 0, 1, 9, 9);
        y.list(0, 0, 0);
        y.load(0, 0);
        CHECK.due("also where all of its ENTRIES find SORT", y.go(0), 0);
        CHECK.due("no CHANNEL", y.playback(0, 6), 0);
        CHECK.due("PLACE", y.playback(0, 1), 0);
        CHECK.due("THE BOOK has it", y.told(2), 5);
        CHECK.due("SORT", y.found(3), 1);
        y.tick(1);
        CHECK.due("found once", y.found(3), 1);
        CHECK.due("PLAYED AGAIN it is not found here", y.replay(), 0);
        CHECK.due("found once", y.found(3), 1);
        y.back(0);
        CHECK.due("found once", y.found(3), 1);
    }

    /** A CUE without ENTRIES begins, too; one of 12, each of 216 MEMBERS, goes through them all in order. */
    private static void emptyAndFullCues() {
        CueBoard x = new CueBoard();
        x.list(0, 15, 0);
        x.load(0, 0);
        CHECK.due("it begins", x.go(0), 15);
        CHECK.due("its PLACE", x.playback(0, 1), 0);
        CHECK.due("no FADES", x.playback(0, 3), 0);
        CHECK.due("no CHANNELS", x.playback(0, 6), 0);
        CueBoard y = new CueBoard();
        y.fixture(2, 0);
        y.fixture(0, 0);
        for (int g = 2; g < 5; g++) {
            y.group(0, 6);
            for (int i = 0; i < 6; i++) {
                y.member(g, i, g == 2 ? i % 2 : g - 1);
            }
        }
        for (int i = 0; i < 12; i++) {
            CHECK.due("an ENTRY", y.entry(0, 4, i % 3, 100 + i, i < 9 ? 5 : 0), i + 1);
        }
        y.list(0, 0, 0);
        y.load(0, 0);
        CHECK.due("it begins", y.go(0), 0);
        CHECK.due("half of them have one CHANNEL of three", y.found(3), 8 * 108);
        CHECK.due("four CHANNELS", y.playback(0, 6), 4);
        CHECK.due("the last ENTRIES are of 0 ticks", y.playback(0, 3), 0);
        for (int c = 0; c < 3; c++) {
            CHECK.due("the last ENTRY of it", y.value(0, 0, c), 109 + c);
        }
        CHECK.due("the last ENTRY of it", y.value(0, 1, 0), 109);
    }

    /** PLAYBACK 0 is at the first CUE (4) of LIST 0, which has this FOLLOW; the second one is 5. */
    private static CueBoard following(int follow) {
        CueBoard x = new CueBoard();
        x.list(0, 4, follow);
        x.list(0, 5, 0);
        x.load(0, 0);
        x.go(0);
        return x;
    }

    private static void ticks(CueBoard x, int n) {
        for (int i = 0; i < n; i++) {
            x.tick(1);
        }
    }

    /** If its CUE has a FOLLOW, and just that many TICKS went since it began (this one too), it GOES. */
    private static void followsAtItsTick() {
        for (int follow : new int[] {1, 2, 5, 49, 50}) {
            CueBoard x = following(follow);
            ticks(x, follow - 1);
            CHECK.due("not yet behind " + (follow - 1), x.playback(0, 1), 0);
            ticks(x, 1);
            CHECK.due("behind " + follow, x.playback(0, 1), 1);
            ticks(x, follow + 1);
            CHECK.due("the next one has no FOLLOW", x.playback(0, 1), 1);
            // It began behind some TICKS: those before it do not count.
            CueBoard y = following(follow);
            y.release(0);
            ticks(y, 7);
            y.go(0);
            ticks(y, follow - 1);
            CHECK.due("not yet behind " + (follow - 1), y.playback(0, 1), 0);
            ticks(y, 1);
            CHECK.due("behind " + follow, y.playback(0, 1), 1);
        }
        CueBoard z = following(3);
        z.tick(5);
        CHECK.due("within a call of several TICKS", z.playback(0, 1), 1);
    }

    /** FOLLOW (0 none). */
    private static void followZeroIsNone() {
        CueBoard x = following(0);
        ticks(x, 60);
        CHECK.due("nothing FOLLOWS", x.playback(0, 1), 0);
        CHECK.due("go", x.go(0), 5);
        CueBoard y = new CueBoard();
        y.list(0, 4, 1);
        y.load(0, 0);
        ticks(y, 3);
        CHECK.due("no CUE began, so none FOLLOWS", y.playback(0, 1), -1);
    }

    /** Eight CUES with a FOLLOW of 1: one in each TICK, up to the last. */
    private static void followsThroughAList() {
        CueBoard x = new CueBoard();
        for (int i = 0; i < 8; i++) {
            x.list(1, i, 1);
        }
        x.load(2, 1);
        x.go(2);
        for (int i = 1; i <= 9; i++) {
            x.tick(1);
            CHECK.due("PLACE behind " + i, x.playback(2, 1), Math.min(i, 7));
        }
        CHECK.due("only go() and TICKS are ACTS", x.playback(2, 4), 10);
        CHECK.due("only go() and TICKS are ACTS", x.playback(2, 5), 10);
        CHECK.due("no next one", x.go(2), NO);
    }

    /** And a next one is there (if none is there then, nothing FOLLOWS any more). */
    private static void aNextOneIsThere() {
        CueBoard x = new CueBoard();
        x.list(0, 4, 2);
        x.load(0, 0);
        x.go(0);
        x.tick(1);
        x.list(0, 5, 0);
        x.tick(1);
        CHECK.due("it came right before", x.playback(0, 1), 1);
        CueBoard y = new CueBoard();
        y.list(0, 4, 2);
        y.load(0, 0);
        y.go(0);
        y.tick(2);
        y.list(0, 5, 0);
        ticks(y, 4);
        CHECK.due("it came right behind", y.playback(0, 1), 0);
        CHECK.due("go", y.go(0), 5);
    }

    /** A CUE that FOLLOWS began in that TICK; one that was stopped, or is gone, is not followed. */
    private static void countedSinceItBegan() {
        CueBoard x = new CueBoard();
        x.list(0, 4, 1);
        x.list(0, 5, 2);
        x.list(0, 6, 0);
        x.load(0, 0);
        x.go(0);
        int[] places = {1, 1, 2, 2};
        for (int place : places) {
            x.tick(1);
            CHECK.due("PLACE behind " + x.told(1), x.playback(0, 1), place);
        }
        CueBoard y = following(2);
        y.tick(1);
        CHECK.due("stop", y.stop(0), 0);
        ticks(y, 3);
        CHECK.due("stopped", y.playback(0, 1), 0);
        CueBoard z = following(2);
        z.tick(1);
        z.release(0);
        ticks(z, 3);
        CHECK.due("released", z.playback(0, 1), -1);
        CueBoard w = following(2);
        w.tick(1);
        w.go(0);
        ticks(w, 3);
        CHECK.due("its own go() was ahead of it", w.playback(0, 1), 1);
        CueBoard v = following(2);
        v.stop(0);
        v.release(0);
        v.go(0);
        v.tick(2);
        CHECK.due("one that begins behind stop() is followed", v.playback(0, 1), 1);
    }
}
