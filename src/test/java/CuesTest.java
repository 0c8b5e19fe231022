/** Promises 20 to 29: entry, list, load, go, stop, release, master, merge, value, playback. */
public final class CuesTest {
    private static final int NONE = CueBoard.NONE, BAD = CueBoard.BAD, NO = CueBoard.NO, FULL = CueBoard.FULL;
    private static final int SORT = -13;
    private static final Check CHECK = new Check();

    public static void main(String[] args) {
        entries();
        lists();
        loading();
        going();
        goingInGroups();
        fading();
        following();
        nothingFollows();
        stopping();
        releasing();
        masters();
        merging();
        mergingAmongThoseThatHaveIt();
        values();
        playbacks();
        CHECK.end();
    }

    /** DIMMER 0, STROBE 1, MOVER 2, SCREEN 3, a GROUP 4 of them all; LINE 0 with 0, 1, 2, 3 at 0, 1, 3, 8. */
    private static CueBoard rig() {
        CueBoard x = new CueBoard();
        x.line(0, 11);
        int[] places = {0, 1, 3, 8};
        for (int f = 0; f < 4; f++) {
            x.fixture(f, 1);
            x.patch(f, 0, places[f]);
        }
        x.group(0, 5);
        for (int f = 0; f < 4; f++) {
            x.member(4, f, f);
        }
        return x;
    }

    private static void entries() {
        CueBoard x = rig();
        CHECK.due("no such CUE", x.entry(16, 0, 0, 0, 0), BAD);
        CHECK.due("no such CUE", x.entry(-1, 0, 0, 0, 0), BAD);
        CHECK.due("no such FIXTURE", x.entry(0, 5, 0, 0, 0), BAD);
        CHECK.due("no such FIXTURE", x.entry(0, -1, 0, 0, 0), BAD);
        CHECK.due("channel", x.entry(0, 0, 3, 0, 0), BAD);
        CHECK.due("channel", x.entry(0, 0, -1, 0, 0), BAD);
        CHECK.due("value", x.entry(0, 0, 0, 65536, 0), BAD);
        CHECK.due("value", x.entry(0, 0, 0, -1, 0), BAD);
        CHECK.due("ticks", x.entry(0, 0, 0, 0, 101), BAD);
        CHECK.due("ticks", x.entry(0, 0, 0, 0, -1), BAD);
        for (int i = 1; i <= 12; i++) {
            CHECK.due("ENTRY " + i, x.entry(15, i % 5, i % 3, i % 2 == 0 ? 65535 : 0, i % 2 == 0 ? 100 : 0), i);
        }
        CHECK.due("a 13th", x.entry(15, 0, 0, 0, 0), FULL);
        CHECK.due("BAD ahead of FULL", x.entry(15, 0, 0, 0, 101), BAD);
        CHECK.due("another CUE", x.entry(14, 0, 0, 0, 0), 1);
        CHECK.found("a channel that it does not have is fine", x, 0, 0, 0, 0, 0, 0);
    }

    private static void lists() {
        CueBoard x = rig();
        CHECK.due("no such LIST", x.list(4, 0, 0), BAD);
        CHECK.due("no such LIST", x.list(-1, 0, 0), BAD);
        CHECK.due("no such CUE", x.list(0, 16, 0), BAD);
        CHECK.due("no such CUE", x.list(0, -1, 0), BAD);
        CHECK.due("FOLLOW", x.list(0, 0, 51), BAD);
        CHECK.due("FOLLOW", x.list(0, 0, -1), BAD);
        for (int i = 1; i <= 8; i++) {
            CHECK.due("CUE " + i, x.list(3, 16 - i, i % 2 * 50), i);
        }
        CHECK.due("a ninth", x.list(3, 0, 0), FULL);
        CHECK.due("BAD ahead of FULL", x.list(3, 16, 0), BAD);
        CHECK.due("another LIST", x.list(2, 0, 0), 1);
        x.load(1, 3);
        for (int i = 1; i <= 8; i++) {
            CHECK.due("they begin in their order", x.go(1), 16 - i);
        }
        CHECK.due("no next one", x.go(1), NO);
    }

    private static void loading() {
        CueBoard x = rig();
        CHECK.due("no such PLAYBACK", x.load(4, 0), BAD);
        CHECK.due("no such PLAYBACK", x.load(-1, 0), BAD);
        CHECK.due("no such LIST", x.load(0, 4), BAD);
        CHECK.due("no such LIST", x.load(0, -2), BAD);
        x.entry(0, 0, 0, 100, 4);
        x.list(0, 0, 1);
        x.list(0, 1, 0);
        CHECK.due("load", x.load(0, 0), 1);
        CHECK.due("its LIST", x.playback(0, 0), 0);
        x.go(0);
        CHECK.due("its PLACE", x.playback(0, 1), 0);
        CHECK.due("load again", x.load(0, 0), 1);
        CHECK.due("its PLACE", x.playback(0, 1), -1);
        CHECK.due("its CHANNELS stay", x.playback(0, 6), 1);
        CHECK.due("its FADES stay", x.playback(0, 3), 1);
        x.tick(1);
        CHECK.due("nothing FOLLOWS", x.playback(0, 1), -1);
        CHECK.due("its FADES go", x.value(0, 0, 0), 25);
        CHECK.due("none", x.load(0, NONE), 1);
        CHECK.due("its LIST", x.playback(0, 0), NONE);
        CHECK.due("no LIST", x.go(0), NO);
        CHECK.due("its CHANNELS stay", x.value(0, 0, 0), 25);
        CHECK.due("a LIST without CUES", x.load(0, 2), 1);
        CHECK.due("no next one", x.go(0), NO);
    }

    private static void going() {
        CueBoard x = rig();
        CHECK.due("no such PLAYBACK", x.go(4), BAD);
        CHECK.due("no such PLAYBACK", x.go(-1), BAD);
        CHECK.due("no LIST", x.go(0), NO);
        x.entry(7, 0, 0, 300, 0);
        x.entry(7, 0, 1, 9, 0);
        x.entry(7, 1, 1, 999, 0);
        x.entry(7, 2, 0, 65535, 0);
        x.entry(7, 2, 2, 65535, 0);
        x.entry(7, 3, 0, 256, 0);
        x.entry(7, 1, 2, 1, 0);
        x.list(1, 7, 0);
        x.load(2, 1);
        CHECK.due("the CUE, though ENTRIES find SORT", x.go(2), 7);
        CHECK.found("SORT twice", x, 0, 0, 2, 0, 0, 0);
        CHECK.due("255 at most", x.value(2, 0, 0), 255);
        CHECK.due("255 at most", x.value(2, 1, 1), 255);
        CHECK.due("wide", x.value(2, 2, 0), 65535);
        CHECK.due("255 at most", x.value(2, 2, 2), 255);
        CHECK.due("255 at most", x.value(2, 3, 0), 255);
        CHECK.due("CHANNELS", x.playback(2, 6), 5);
        CHECK.due("ENTRIES", x.playback(2, 4), 1);
        CHECK.due("no next one", x.go(2), NO);
        CHECK.due("its PLACE stays", x.playback(2, 1), 0);
        CHECK.due("refused: no ENTRY", x.playback(2, 4), 1);
        x.list(1, 3, 0);
        CHECK.due("a next one came", x.go(2), 3);
    }

    private static void goingInGroups() {
        CueBoard x = rig();
        x.entry(0, 4, 2, 300, 0);
        x.entry(0, 4, 1, 300, 2);
        x.list(0, 0, 0);
        x.load(0, 0);
        CHECK.due("go", x.go(0), 0);
        CHECK.found("DIMMER and STROBE, then DIMMER have none", x, 0, 0, 3, 0, 0, 0);
        int[][] want = {{NONE, SORT, SORT}, {NONE, 0, SORT}, {NONE, 0, 255}, {NONE, 0, 255}};
        for (int f = 0; f < 4; f++) {
            for (int c = 0; c < 3; c++) {
                CHECK.due("value(0, " + f + ", " + c + ")", x.value(0, f, c), want[f][c]);
            }
        }
        CHECK.due("FADES", x.playback(0, 3), 3);
        x.tick(1);
        CHECK.due("RATE", x.value(0, 1, 1), 128);
        CHECK.due("TILT", x.value(0, 2, 1), 150);
        CHECK.due("GREEN", x.value(0, 3, 1), 128);
        // A GROUP in a GROUP in a GROUP; a MEMBER that it gets behind the ENTRY is one, too.
        x.group(0, 1);
        x.group(0, 2);
        x.member(5, 0, 4);
        x.entry(1, 6, 0, 77, 0);
        x.member(6, 1, 5);
        x.list(0, 1, 0);
        x.go(0);
        for (int f = 0; f < 4; f++) {
            CHECK.due("value(0, " + f + ", 0)", x.value(0, f, 0), 77);
        }
    }

    private static void fading() {
        CueBoard x = rig();
        x.entry(0, 2, 0, 7, 3);
        x.entry(1, 2, 0, 0, 2);
        x.entry(2, 2, 0, 65535, 100);
        x.entry(3, 2, 0, 500, 0);
        for (int i = 0; i < 4; i++) {
            x.list(0, i, 0);
        }
        x.load(0, 0);
        x.go(0);
        CHECK.due("from 0", x.value(0, 2, 0), 0);
        int[] up = {2, 5, 7, 7};
        for (int want : up) {
            x.tick(1);
            CHECK.due("7 in 3", x.value(0, 2, 0), want);
        }
        CHECK.due("it has ended", x.playback(0, 3), 0);
        x.go(0);
        CHECK.due("from 7", x.value(0, 2, 0), 7);
        x.tick(1);
        CHECK.due("7 to 0: halves up", x.value(0, 2, 0), 4);
        x.go(0);
        CHECK.due("in place of an earlier one", x.playback(0, 3), 1);
        for (int k = 1; k <= 99; k++) {
            x.tick(1);
            CHECK.due("4 to 65535 behind " + k, x.value(0, 2, 0), Math.round(4 + 65531 * k / 100.0));
        }
        CHECK.due("it goes", x.playback(0, 3), 1);
        x.go(0);
        CHECK.due("at once", x.value(0, 2, 0), 500);
        CHECK.due("in place of an earlier one", x.playback(0, 3), 0);
        x.tick(1);
        CHECK.due("it stays", x.value(0, 2, 0), 500);
        fadesOfOneCue();
    }

    private static void fadesOfOneCue() {
        CueBoard x = rig();
        x.entry(0, 0, 0, 100, 0);
        x.entry(0, 0, 0, 200, 10);
        x.list(0, 0, 0);
        x.load(0, 0);
        x.go(0);
        CHECK.due("one CHANNEL", x.playback(0, 6), 1);
        x.tick(1);
        CHECK.due("the later ENTRY, from the earlier one", x.value(0, 0, 0), 110);
        x.entry(1, 0, 0, 50, 1);
        x.entry(1, 0, 0, 0, 1);
        x.entry(1, 0, 0, 90, 1);
        x.list(0, 1, 0);
        x.go(0);
        CHECK.due("one FADE", x.playback(0, 3), 1);
        x.tick(1);
        CHECK.due("the last ENTRY", x.value(0, 0, 0), 90);
        CHECK.due("no FADE", x.playback(0, 3), 0);
    }

    private static void following() {
        CueBoard x = rig();
        x.list(0, 5, 2);
        x.list(0, 6, 1);
        x.list(0, 7, 0);
        x.list(0, 8, 1);
        x.load(1, 0);
        x.go(1);
        int[] places = {0, 1, 2, 2, 2};
        for (int place : places) {
            x.tick(1);
            CHECK.due("PLACE behind TICK " + x.told(1), x.playback(1, 1), place);
        }
        CHECK.due("only TICKS and go() are ACTS", x.playback(1, 4), 6);
        x.go(1);
        x.tick(1);
        CHECK.due("no next one", x.playback(1, 1), 3);
        x.list(0, 9, 0);
        x.tick(3);
        CHECK.due("it came too late", x.playback(1, 1), 3);
        CHECK.due("go", x.go(1), 9);
        // One that comes before it is due is there in time.
        CueBoard y = rig();
        y.list(0, 5, 3);
        y.load(0, 0);
        y.go(0);
        y.tick(2);
        y.list(0, 6, 0);
        y.tick(1);
        CHECK.due("it came in time", y.playback(0, 1), 1);
        // SORT in a CUE that FOLLOWS is found in the TICK.
        CueBoard z = rig();
        z.entry(1, 0, 2, 1, 0);
        z.list(0, 0, 50);
        z.list(0, 1, 0);
        z.load(0, 0);
        z.tick(1);
        z.go(0);
        for (int i = 0; i < 49; i++) {
            z.tick(1);
        }
        CHECK.found("not yet", z, 0, 0, 0, 0, 0, 0);
        z.tick(1);
        CHECK.found("in the TICK", z, 0, 0, 1, 0, 0, 0);
    }

    private static void nothingFollows() {
        CueBoard x = rig();
        x.list(0, 5, 2);
        x.list(0, 6, 1);
        x.list(0, 7, 0);
        x.load(0, 0);
        x.go(0);
        x.tick(1);
        CHECK.due("stop", x.stop(0), 0);
        x.tick(5);
        CHECK.due("nothing FOLLOWS", x.playback(0, 1), 0);
        x.go(0);
        x.tick(1);
        CHECK.due("the next CUE has its own FOLLOW", x.playback(0, 1), 2);
        // A go() ahead of time begins the count anew.
        CueBoard y = rig();
        y.list(0, 5, 2);
        y.list(0, 6, 2);
        y.list(0, 7, 0);
        y.load(0, 0);
        y.go(0);
        y.tick(1);
        y.go(0);
        y.tick(1);
        CHECK.due("one TICK", y.playback(0, 1), 1);
        y.tick(1);
        CHECK.due("two TICKS", y.playback(0, 1), 2);
        y.release(0);
        y.go(0);
        y.tick(1);
        y.release(0);
        y.tick(5);
        CHECK.due("released", y.playback(0, 1), -1);
    }

    private static void stopping() {
        CueBoard x = rig();
        CHECK.due("BAD", x.stop(4), BAD);
        CHECK.due("BAD", x.stop(-1), BAD);
        x.entry(0, 0, 0, 100, 4);
        x.entry(0, 1, 0, 100, 1);
        x.entry(0, 2, 0, 100, 0);
        x.entry(0, 3, 0, 100, 5);
        x.list(0, 0, 0);
        x.load(0, 0);
        x.go(0);
        CHECK.due("FADES", x.playback(0, 3), 3);
        x.tick(1);
        CHECK.due("FADES", x.playback(0, 3), 2);
        CHECK.due("two went", x.stop(0), 2);
        CHECK.due("none goes", x.playback(0, 3), 0);
        CHECK.due("none went", x.stop(0), 0);
        x.tick(3);
        CHECK.due("where it was", x.value(0, 0, 0), 25);
        CHECK.due("where it was", x.value(0, 3, 0), 20);
        CHECK.due("CHANNELS stay", x.playback(0, 6), 4);
        CHECK.due("PLACE stays", x.playback(0, 1), 0);
        CHECK.due("at", x.at(0, 0), 25);
        x.entry(1, 2, 2, 100, 2);
        x.list(0, 1, 0);
        x.go(0);
        CHECK.due("another one goes", x.playback(0, 3), 1);
        x.tick(1);
        CHECK.due("another one goes", x.value(0, 2, 2), 50);
        CHECK.due("where it was still", x.value(0, 0, 0), 25);
        CHECK.due("one went", x.stop(0), 1);
    }

    private static void releasing() {
        CueBoard x = rig();
        CHECK.due("BAD", x.release(4), BAD);
        CHECK.due("BAD", x.release(-1), BAD);
        CHECK.due("it had none", x.release(0), 0);
        x.entry(0, 0, 0, 100, 4);
        x.entry(0, 1, 0, 100, 0);
        x.list(0, 0, 0);
        x.load(0, 0);
        x.go(0);
        x.tick(1);
        CHECK.due("it had two", x.release(0), 2);
        CHECK.due("none", x.playback(0, 6), 0);
        CHECK.due("no FADES", x.playback(0, 3), 0);
        CHECK.due("its PLACE", x.playback(0, 1), -1);
        CHECK.due("its LIST", x.playback(0, 0), 0);
        CHECK.due("no VALUE", x.value(0, 0, 0), NONE);
        x.tick(1);
        CHECK.due("0 without any", x.at(0, 1), 0);
        x.go(0);
        CHECK.due("from 0 again", x.value(0, 0, 0), 0);
        CHECK.due("two again", x.playback(0, 6), 2);
        x.tick(1);
        CHECK.due("from 0 again", x.value(0, 0, 0), 25);
    }

    private static void masters() {
        CueBoard x = rig();
        CHECK.due("BAD", x.master(4, 0), BAD);
        CHECK.due("BAD", x.master(-2, 0), BAD);
        CHECK.due("BAD", x.master(0, 101), BAD);
        CHECK.due("BAD", x.master(0, -1), BAD);
        CHECK.due("BAD", x.master(NONE, 101), BAD);
        x.entry(0, 1, 0, 99, 0);
        x.entry(0, 1, 1, 99, 0);
        x.entry(0, 2, 0, 1000, 0);
        x.entry(0, 2, 2, 255, 0);
        x.entry(0, 3, 2, 201, 0);
        x.list(0, 0, 0);
        x.load(0, 0);
        x.go(0);
        CHECK.due("MASTER", x.master(0, 50), 100);
        CHECK.due("MASTER", x.playback(0, 2), 50);
        CHECK.due("another one's", x.playback(1, 2), 100);
        x.tick(1);
        CHECK.bytes("DIMMING ones are mastered, cut", x, 0, 0, 49, 99, 1000 / 256, 1000 % 256, 0, 0, 127, 0, 0, 100);
        CHECK.due("VALUES stay", x.value(0, 1, 0), 99);
        CHECK.due("GRAND", x.master(NONE, 33), 100);
        CHECK.due("told(4)", x.told(4), 33);
        x.tick(1);
        CHECK.bytes("cut twice", x, 0, 0, 49 * 33 / 100, 99, 1000 / 256, 1000 % 256, 0, 0, 41, 0, 0, 33);
        CHECK.due("GRAND", x.master(NONE, 0), 33);
        CHECK.due("MASTER", x.master(0, 0), 50);
        x.tick(1);
        CHECK.bytes("none", x, 0, 0, 0, 99, 1000 / 256, 1000 % 256, 0, 0, 0, 0, 0, 0);
    }

    private static void merging() {
        CueBoard x = rig();
        CHECK.due("BAD", x.merge(5, 0, true), BAD);
        CHECK.due("BAD", x.merge(-1, 0, true), BAD);
        CHECK.due("BAD", x.merge(0, 3, true), BAD);
        CHECK.due("BAD", x.merge(0, -1, false), BAD);
        CHECK.due("no such CHANNEL", x.merge(0, 1, true), SORT);
        CHECK.due("no such CHANNEL", x.merge(4, 0, false), SORT);
        CHECK.found("as found", x, 0, 0, 2, 0, 0, 0);
        for (int i = 0; i < 3; i++) {
            x.entry(i, 0, 0, 60 - 20 * i, 0);
            x.entry(i, 2, 0, 600 - 200 * i, 0);
            x.list(i, i, 0);
            x.load(i, i);
        }
        x.go(2);
        x.go(0);
        x.go(1);
        x.tick(1);
        CHECK.due("the greatest", x.at(0, 0), 60);
        CHECK.due("the greatest", x.wide(0, 3), 600);
        CHECK.due("by the latest", x.merge(0, 0, true), 1);
        CHECK.due("by the latest", x.merge(2, 0, true), 1);
        x.tick(1);
        CHECK.due("the latest", x.at(0, 0), 40);
        CHECK.due("the latest", x.wide(0, 3), 400);
        x.release(1);
        x.tick(1);
        CHECK.due("the latest of those that have it", x.at(0, 0), 60);
        x.release(0);
        x.tick(1);
        CHECK.due("the latest of those that have it", x.at(0, 0), 20);
        x.go(0);
        x.merge(0, 0, false);
        x.master(0, 30);
        x.tick(1);
        CHECK.due("each times MASTER first", x.at(0, 0), 20);
        x.merge(0, 0, true);
        x.tick(1);
        CHECK.due("each times MASTER first", x.at(0, 0), 18);
        mergingByChannels();
    }

    private static void mergingByChannels() {
        CueBoard x = rig();
        for (int i = 0; i < 2; i++) {
            for (int c = 0; c < 3; c++) {
                x.entry(i, 3, c, 90 - 50 * i, 0);
            }
            x.list(i, i, 0);
            x.load(i, i);
            x.go(i);
        }
        x.merge(3, 1, true);
        x.tick(1);
        CHECK.due("RED", x.at(0, 8), 90);
        CHECK.due("GREEN alone by the latest", x.at(0, 9), 40);
        CHECK.due("BLUE", x.at(0, 10), 90);
        x.merge(3, 1, false);
        x.merge(3, 2, true);
        x.tick(1);
        CHECK.due("GREEN", x.at(0, 9), 90);
        CHECK.due("BLUE alone by the latest", x.at(0, 10), 40);
    }

    private static void mergingAmongThoseThatHaveIt() {
        CueBoard x = rig();
        x.merge(0, 0, true);
        x.entry(0, 0, 0, 50, 4);
        x.entry(1, 1, 0, 60, 0);
        x.entry(2, 0, 0, 70, 0);
        x.list(0, 0, 0);
        x.list(1, 1, 1);
        x.list(1, 2, 0);
        x.list(2, 2, 0);
        x.load(0, 0);
        x.load(1, 1);
        x.load(2, 2);
        x.go(1);
        x.go(2);
        x.go(0);
        x.tick(1);
        // PLAYBACK 1 FOLLOWS in this TICK, so its FADE began last.
        CHECK.due("a FADE of 0 ticks begins, too", x.at(0, 0), 70);
        x.release(1);
        x.tick(1);
        CHECK.due("a FADE that began last, though lower", x.at(0, 0), 25);
        x.stop(0);
        x.tick(1);
        CHECK.due("it began last, though it does not go", x.at(0, 0), 25);
    }

    private static void values() {
        CueBoard x = rig();
        CHECK.due("BAD", x.value(4, 0, 0), BAD);
        CHECK.due("BAD", x.value(-1, 0, 0), BAD);
        CHECK.due("BAD", x.value(0, 5, 0), BAD);
        CHECK.due("BAD", x.value(0, -1, 0), BAD);
        CHECK.due("BAD", x.value(0, 0, 3), BAD);
        CHECK.due("BAD", x.value(0, 0, -1), BAD);
        CHECK.due("no such CHANNEL", x.value(0, 0, 1), SORT);
        CHECK.due("no such CHANNEL", x.value(3, 1, 2), SORT);
        CHECK.due("no such CHANNEL", x.value(3, 4, 0), SORT);
        CHECK.found("as found", x, 0, 0, 3, 0, 0, 0);
        CHECK.due("none", x.value(0, 2, 2), NONE);
        x.entry(0, 2, 2, 0, 0);
        x.list(0, 0, 0);
        x.load(3, 0);
        x.go(3);
        CHECK.due("0 is one", x.value(3, 2, 2), 0);
        CHECK.due("none in another PLAYBACK", x.value(0, 2, 2), NONE);
    }

    private static void playbacks() {
        CueBoard x = rig();
        for (int what = -1; what <= 7; what++) {
            CHECK.due("BAD", x.playback(4, what), BAD);
            CHECK.due("BAD", x.playback(-1, what), BAD);
        }
        CHECK.due("BAD", x.playback(0, 7), BAD);
        CHECK.due("BAD", x.playback(0, -1), BAD);
        x.entry(0, 4, 0, 9, 3);
        x.entry(0, 0, 0, 9, 0);
        x.list(2, 0, 0);
        x.list(2, 0, 0);
        x.load(1, 2);
        x.master(1, 77);
        x.go(1);
        x.tick(2);
        x.go(1);
        x.go(1);
        int[] want = {2, 1, 77, 3, 4, 4, 4};
        for (int what = 0; what < want.length; what++) {
            CHECK.due("playback(1, " + what + ")", x.playback(1, what), want[what]);
        }
        int[] idle = {NONE, -1, 100, 0, 2, 2, 0};
        for (int what = 0; what < idle.length; what++) {
            CHECK.due("playback(3, " + what + ")", x.playback(3, what), idle[what]);
        }
    }
}
