/** Promises 36 to 39: digest, replay, back, told; and the constants. */
public final class BookTest {
    private static final int NONE = CueBoard.NONE, BAD = CueBoard.BAD, NO = CueBoard.NO;
    private static final Check CHECK = new Check();

    public static void main(String[] args) {
        constants();
        digests();
        whatIsInTheBook();
        tooManyCalls();
        backToTicks();
        backWithinACall();
        backForgets();
        backIsRefused();
        bookIsFilledAgain();
        tellings();
        CHECK.end();
    }

    private static void constants() {
        CHECK.due("NONE", CueBoard.NONE, -1);
        CHECK.due("BAD", CueBoard.BAD, -2);
        CHECK.due("NO", CueBoard.NO, -3);
        CHECK.due("FULL", CueBoard.FULL, -4);
    }

    /** A STROBE on LINE 1 (2 places) and a DIMMER on LINE 3 (1 place); CUE 0 fades both to 100 in 10 ticks. */
    private static CueBoard show() {
        CueBoard x = new CueBoard();
        x.line(1, 2);
        x.line(3, 1);
        x.fixture(1, 0);
        x.fixture(0, 0);
        x.patch(0, 1, 0);
        x.patch(1, 3, 0);
        x.entry(0, 0, 0, 100, 10);
        x.entry(0, 0, 1, 50, 0);
        x.entry(0, 1, 0, 200, 10);
        x.list(0, 0, 0);
        x.load(0, 0);
        x.go(0);
        return x;
    }

    private static int digestBehind(int digest, int... bytes) {
        int behind = digest;
        for (int b : bytes) {
            behind = 31 * behind + b;
        }
        return behind;
    }

    private static void digests() {
        CueBoard x = show();
        CHECK.due("before a TICK", x.digest(), 0);
        int want = 0;
        for (int k = 1; k <= 10; k++) {
            x.tick(1);
            want = digestBehind(want, 10 * k, 50, 20 * k);
            CHECK.due("behind TICK " + k, x.digest(), want);
            CHECK.due("PLAYED AGAIN", x.replay(), want);
        }
        x.pull(1);
        x.tick(1);
        want = digestBehind(want, 200);
        CHECK.due("PLUGGED ones alone", x.digest(), want);
        CHECK.due("PLAYED AGAIN", x.replay(), want);
        x.line(0, 2);
        x.blackout(true);
        x.tick(1);
        want = digestBehind(want, 0, 0, 0);
        CHECK.due("by numbers", x.digest(), want);
        CHECK.due("PLAYED AGAIN", x.replay(), want);
        CHECK.due("told(2)", x.told(2), 27);
    }

    private static void whatIsInTheBook() {
        CueBoard x = new CueBoard();
        x.line(0, 5);
        x.pull(0);
        x.plug(0);
        x.fixture(0, 0);
        x.group(0, 2);
        x.member(1, 0, 0);
        x.patch(0, 0, 0);
        x.unpatch(0);
        x.firm(0, true);
        x.point(0, 0, 0);
        x.bend(0, 0, 0);
        CHECK.due("told(2)", x.told(2), 11);
        x.entry(0, 0, 0, 1, 1);
        x.list(0, 0, 0);
        x.load(0, 0);
        x.go(0);
        x.stop(0);
        x.release(0);
        x.master(0, 5);
        x.merge(0, 0, true);
        x.limit(0, 1);
        x.blackout(false);
        x.tick(2);
        CHECK.due("all that act", x.told(2), 22);
        x.firm(0, true);
        x.release(0);
        x.stop(0);
        x.blackout(false);
        CHECK.due("also where all stays as it was", x.told(2), 26);
        x.at(0, 0);
        x.wide(0, 0);
        x.memberAt(1, 0);
        x.asks(0, 0);
        x.trace(0);
        x.about(0, 0);
        x.curve(0, 0);
        x.value(0, 0, 0);
        x.playback(0, 0);
        x.heat(0);
        x.over(0);
        x.found(1);
        x.digest();
        x.replay();
        x.told(0);
        CHECK.due("none that asks", x.told(2), 26);
        x.line(9, 9);
        x.line(0, -1);
        x.plug(0);
        x.go(0);
        x.go(0);
        x.member(1, 5, 0);
        x.bend(1, 0, 0);
        x.tick(9);
        CHECK.due("none that was refused, or found something, but one go()", x.told(2), 27);
    }

    private static void tooManyCalls() {
        CueBoard x = show();
        x.tick(1);
        while (x.told(2) < 120) {
            x.limit(0, 5);
        }
        CHECK.due("just as many", x.told(2), 120);
        CHECK.due("PLAYED AGAIN", x.replay(), x.digest());
        x.asks(0, 0);
        x.line(0, -1);
        CHECK.due("still as many", x.told(2), 120);
        CHECK.due("one more", x.tick(1), 2);
        CHECK.due("more than it has", x.told(2), 121);
        CHECK.due("replay", x.replay(), NO);
        CHECK.due("back", x.back(0), NO);
        CHECK.due("BAD ahead of NO", x.back(51), BAD);
        CHECK.due("they act all the same", x.at(3, 0), 40);
        CHECK.due("THE DIGEST goes on", x.digest(), digestBehind(0, 10, 50, 20, 20, 50, 40));
        x.limit(0, 5);
        CHECK.due("more than it has", x.told(2), 121);
    }

    private static void backToTicks() {
        CueBoard x = show();
        int[] digests = new int[11];
        for (int k = 1; k <= 8; k++) {
            x.tick(1);
            digests[k] = x.digest();
        }
        x.blackout(true);
        x.fixture(3, 3);
        CHECK.due("to the latest", x.back(0), 8);
        CHECK.due("what came behind it is out", x.told(3), 0);
        CHECK.due("what came behind it is out", x.told(0), 2);
        CHECK.due("what came behind it is out", x.told(2), 20);
        CHECK.due("THE DIGEST", x.digest(), digests[8]);
        CHECK.due("at", x.at(1, 0), 80);
        CHECK.due("by 3", x.back(3), 5);
        CHECK.due("TICKS", x.told(1), 5);
        CHECK.due("told(2)", x.told(2), 17);
        CHECK.due("THE DIGEST", x.digest(), digests[5]);
        CHECK.due("at", x.at(3, 0), 100);
        CHECK.due("FADES go", x.playback(0, 3), 2);
        CHECK.due("ENTRIES", x.playback(0, 4), 6);
        CHECK.due("by 4: to the first", x.back(4), 1);
        CHECK.due("THE DIGEST", x.digest(), digests[1]);
        x.tick(1);
        CHECK.due("it goes on", x.digest(), digests[2]);
        CHECK.due("PLAYED AGAIN", x.replay(), digests[2]);
    }

    private static void backWithinACall() {
        CueBoard x = show();
        x.tick(5);
        x.master(NONE, 50);
        x.tick(5);
        CHECK.due("told(2)", x.told(2), 15);
        CHECK.due("within the last call", x.back(2), 8);
        CHECK.due("told(2)", x.told(2), 15);
        CHECK.due("at", x.at(3, 0), 80);
        CHECK.due("to its end", x.back(3), 5);
        CHECK.due("told(2)", x.told(2), 13);
        CHECK.due("GRAND", x.told(4), 100);
        CHECK.due("at", x.at(3, 0), 100);
        CHECK.due("within the first call", x.back(4), 1);
        CHECK.due("told(2)", x.told(2), 13);
        CHECK.due("THE DIGEST", x.digest(), digestBehind(0, 10, 50, 20));
        CHECK.due("PLAYED AGAIN", x.replay(), digestBehind(0, 10, 50, 20));
        x.tick(1);
        CHECK.due("at", x.at(3, 0), 40);
        CHECK.due("THE DIGEST", x.digest(), digestBehind(0, 10, 50, 20, 20, 50, 40));
    }

    private static void backForgets() {
        CueBoard x = show();
        x.patch(1, 0, 0);
        x.tick(1);
        x.at(2, 0);
        x.line(1, -1);
        x.asks(0, 0);
        CHECK.found("before", x, 2, 0, 0, 0, 1, 0);
        x.tick(1);
        CHECK.found("before", x, 3, 0, 0, 0, 1, 0);
        CHECK.due("back", x.back(0), 2);
        CHECK.found("those of TICKS alone", x, 2, 0, 0, 0, 0, 0);
        CHECK.trace("THE TRACE is empty", x);
        CHECK.due("back", x.back(1), 1);
        CHECK.found("those of TICKS alone", x, 1, 0, 0, 0, 0, 0);
        everythingGoesBack();
    }

    /** All that can be told comes behind the TICK, and is as it was before it. */
    private static void everythingGoesBack() {
        CueBoard x = show();
        x.tick(1);
        x.limit(1, 0);
        x.limit(3, 0);
        x.firm(0, true);
        x.point(0, 0, 0x41200000);
        x.bend(0, 0, 0);
        x.merge(0, 0, true);
        x.entry(0, 1, 0, 1, 1);
        x.list(0, 0, 1);
        x.fixture(3, 0);
        x.group(0, 6);
        x.member(3, 5, 2);
        x.master(0, 3);
        x.unpatch(1);
        x.load(1, 0);
        x.go(1);
        x.pull(1);
        x.tick(1);
        CHECK.due("back", x.back(1), 1);
        CHECK.due("POINTS", x.curve(0, 7), Float.floatToIntBits(7f));
        CHECK.due("FIRM", x.about(0, 4), 0);
        CHECK.due("PATCHED", x.about(1, 2), 3);
        CHECK.due("FIXTURES", x.told(0), 2);
        CHECK.due("LIST", x.playback(1, 0), NONE);
        CHECK.due("PLACE", x.playback(1, 1), -1);
        CHECK.due("CHANNELS", x.playback(1, 6), 0);
        CHECK.due("ENTRIES", x.playback(1, 4), 1);
        CHECK.due("MASTER", x.playback(0, 2), 100);
        CHECK.due("ENTRIES of a CUE", x.entry(0, 0, 0, 0, 0), 4);
        CHECK.due("CUES of a LIST", x.list(0, 0, 0), 2);
        CHECK.due("a GROUP", x.group(0, 6), 2);
        CHECK.due("its places are empty", x.memberAt(2, 0), NONE);
        x.tick(1);
        CHECK.bytes("no CURVE, no LIMIT", x, 1, 20, 50);
        CHECK.bytes("no CURVE, no LIMIT", x, 3, 40);
        CHECK.due("HEAT", x.heat(3), 3);
        whatNobodySeesGoesBack();
    }

    /** What shows only later, or once more is told. */
    private static void whatNobodySeesGoesBack() {
        CueBoard x = show();
        x.tick(1);
        x.line(2, 5);
        x.limit(1, 0);
        x.patch(0, 1, 1);
        for (int g = 0; g < 3; g++) {
            x.group(0, 1);
        }
        x.merge(1, 0, true);
        x.bend(1, 0, 2);
        x.point(2, 0, 0x42480000);
        x.entry(1, 1, 0, 30, 0);
        x.list(1, 1, 0);
        x.load(1, 1);
        x.go(1);
        x.tick(1);
        CHECK.due("BENT", x.at(3, 0), 50);
        CHECK.due("back", x.back(1), 1);
        CHECK.due("LINE 2 was never told", x.at(2, 0), -11);
        CHECK.due("LINE 2 was never told", x.plug(2), NO);
        for (int g = 2; g < 5; g++) {
            CHECK.due("three GROUPS", x.group(0, 1), g);
        }
        x.entry(1, 1, 0, 1, 0);
        x.list(1, 1, 0);
        x.load(1, 1);
        x.go(1);
        x.tick(1);
        CHECK.due("by the greatest", x.at(3, 0), 40);
        x.bend(1, 0, 2);
        x.point(2, 0, 0x7FC00000);
        x.tick(1);
        CHECK.due("it was never BENT", x.at(3, 0), 0);
    }

    private static void backIsRefused() {
        CueBoard x = show();
        CHECK.due("BAD", x.back(-1), BAD);
        CHECK.due("BAD", x.back(51), BAD);
        CHECK.due("no TICK", x.back(0), NO);
        x.tick(2);
        CHECK.due("BAD", x.back(51), BAD);
        CHECK.due("two went, not three", x.back(2), NO);
        CHECK.due("two went, not three", x.back(50), NO);
        CHECK.due("nothing changed", x.told(1), 2);
        CHECK.due("two went", x.back(1), 1);
        CueBoard y = show();
        for (int i = 0; i < 10; i++) {
            y.tick(5);
        }
        CHECK.due("50 went, not 51", y.back(50), NO);
        y.tick(1);
        CHECK.due("51 went", y.back(50), 1);
        CHECK.due("told(2)", y.told(2), 13);
    }

    private static void bookIsFilledAgain() {
        CueBoard x = show();
        while (x.told(2) < 120) {
            x.tick(1);
        }
        CHECK.due("back", x.back(50), 58);
        CHECK.due("told(2)", x.told(2), 70);
        while (x.told(2) < 120) {
            x.limit(2, 2);
        }
        CHECK.due("PLAYED AGAIN", x.replay(), x.digest());
        CHECK.due("back", x.back(0), 58);
        CHECK.due("told(2)", x.told(2), 70);
    }

    private static void tellings() {
        CueBoard x = show();
        CHECK.due("BAD", x.told(-1), BAD);
        CHECK.due("BAD", x.told(5), BAD);
        x.group(0, 0);
        x.tick(3);
        x.blackout(true);
        x.master(NONE, 12);
        int[] want = {3, 3, 16, 1, 12};
        for (int what = 0; what < want.length; what++) {
            CHECK.due("told(" + what + ")", x.told(what), want[what]);
        }
    }
}
