/** Promises 7 to 16: fixture, group, member, memberAt, asks, trace, about, patch, unpatch, firm. */
public final class FixturesTest {
    private static final int NONE = CueBoard.NONE, BAD = CueBoard.BAD, NO = CueBoard.NO, FULL = CueBoard.FULL;
    private static final int BEYOND = -12, SORT = -13, NOUGHT = -14, FEWER = -15, STORE = -16;
    private static final Check CHECK = new Check();

    public static void main(String[] args) {
        fixturesAsTheyCome();
        groupsAsTheyCome();
        membersArePut();
        membersInGroups();
        askedAlone();
        askedOfGroups();
        aboutFixtures();
        patching();
        sharedBytes();
        firmness();
        CHECK.end();
    }

    private static void fixturesAsTheyCome() {
        CueBoard x = new CueBoard();
        CHECK.due("fixture(-1, 0)", x.fixture(-1, 0), BAD);
        CHECK.due("fixture(4, 0)", x.fixture(4, 0), BAD);
        CHECK.due("fixture(0, -1)", x.fixture(0, -1), BAD);
        CHECK.due("fixture(0, 101)", x.fixture(0, 101), BAD);
        CHECK.due("told(0)", x.told(0), 0);
        for (int i = 0; i < 24; i++) {
            CHECK.due("fixture " + i, x.fixture(i % 4, i % 2 == 0 ? 100 : 0), i);
        }
        CHECK.due("a 25th", x.fixture(0, 0), FULL);
        CHECK.due("BAD ahead of FULL", x.fixture(0, 101), BAD);
        CHECK.due("a GROUP as the 25th", x.group(0, 0), FULL);
        CHECK.due("FULL ahead of FEWER", x.group(0, -1), FULL);
        CHECK.due("told(0)", x.told(0), 24);
        CHECK.due("told(2)", x.told(2), 24);
    }

    private static void groupsAsTheyCome() {
        CueBoard x = new CueBoard();
        CHECK.due("group(-1, 1)", x.group(-1, 1), BAD);
        CHECK.due("group(3, 1)", x.group(3, 1), BAD);
        CHECK.due("group(3, -1)", x.group(3, -1), BAD);
        CHECK.due("group(0, 7)", x.group(0, 7), BAD);
        CHECK.due("group(0, -1)", x.group(0, -1), FEWER);
        CHECK.due("group(2, MIN)", x.group(2, Integer.MIN_VALUE), FEWER);
        CHECK.found("two FEWER", x, 0, 0, 0, 0, 2, 0);
        CHECK.due("told(0)", x.told(0), 0);
        CHECK.due("group(0, 0)", x.group(0, 0), 0);
        CHECK.due("group(1, 6)", x.group(1, 6), 1);
        CHECK.due("group(2, 3)", x.group(2, 3), 2);
        CHECK.due("a fourth", x.group(0, 1), FULL);
        CHECK.due("a fourth with FEWER", x.group(0, -1), FULL);
        CHECK.due("BAD ahead of FULL", x.group(0, 7), BAD);
        CHECK.due("a FIXTURE still comes", x.fixture(0, 0), 3);
        CHECK.due("told(0)", x.told(0), 4);
    }

    /** DIMMER 0, STROBE 1, MOVER 2, SCREEN 3, then a GROUP of 4 places for each FORM: 4, 5, 6; DIMMER 7. */
    private static CueBoard grouped() {
        CueBoard x = new CueBoard();
        x.fixture(0, 1);
        x.fixture(1, 2);
        x.fixture(2, 50);
        x.fixture(3, 8);
        x.group(0, 4);
        x.group(1, 4);
        x.group(2, 4);
        x.fixture(0, 7);
        return x;
    }

    private static void membersArePut() {
        CueBoard x = grouped();
        CHECK.due("no such GROUP", x.member(8, 0, 0), BAD);
        CHECK.due("no such GROUP", x.member(-1, 0, NONE), BAD);
        CHECK.due("no such FIXTURE", x.member(4, 0, -2), BAD);
        CHECK.due("no such FIXTURE", x.member(4, 0, 8), BAD);
        CHECK.due("itself", x.member(4, 0, 4), BAD);
        CHECK.due("one that came later", x.member(4, 0, 7), BAD);
        CHECK.due("BAD ahead of SORT", x.member(0, 0, 1), BAD);
        CHECK.due("BAD ahead of BEYOND", x.member(4, 9, 7), BAD);
        CHECK.due("no GROUP", x.member(3, 0, 1), SORT);
        CHECK.due("no GROUP, none", x.member(0, 0, NONE), SORT);
        CHECK.due("SORT ahead of BEYOND", x.member(3, 9, 1), SORT);
        CHECK.due("BEYOND", x.member(5, 4, 0), BEYOND);
        CHECK.due("BEYOND, none", x.member(5, -1, NONE), BEYOND);
        CHECK.due("BEYOND ahead of STORE", x.member(5, 4, 2), BEYOND);
        CHECK.due("a MOVER for DIMMERS", x.member(5, 0, 2), STORE);
        CHECK.due("a SCREEN for DIMMERS", x.member(5, 0, 3), STORE);
        CHECK.due("a GROUP for DIMMERS", x.member(5, 0, 4), STORE);
        CHECK.due("a DIMMER among those that MOVE", x.member(6, 0, 0), STORE);
        CHECK.due("a STROBE among those that MOVE", x.member(6, 0, 1), STORE);
        CHECK.due("a GROUP among those that MOVE", x.member(6, 0, 5), STORE);
        CHECK.found("as found", x, 0, 3, 3, 0, 0, 6);
        CHECK.due("nothing was put", x.memberAt(5, 0), NONE);
        CHECK.due("a DIMMER", x.member(5, 3, 0), 1);
        CHECK.due("a STROBE is a DIMMER, too", x.member(5, 1, 1), 1);
        CHECK.due("a MOVER", x.member(6, 0, 2), 1);
        CHECK.due("a SCREEN", x.member(6, 1, 3), 1);
        CHECK.due("none", x.member(6, 0, NONE), 1);
        for (int f = 0; f < 4; f++) {
            CHECK.due("FORM 0 takes " + f, x.member(4, f, f), 1);
        }
        CHECK.due("place by place", x.memberAt(5, 0), 1);
        CHECK.due("place by place", x.memberAt(5, 1), 0);
        CHECK.due("place by place", x.memberAt(5, 2), NONE);
        CHECK.due("one was taken", x.memberAt(6, 0), 3);
    }

    private static void membersInGroups() {
        CueBoard x = new CueBoard();
        x.fixture(0, 0);
        x.fixture(3, 1);
        x.group(0, 3);
        x.member(2, 0, 1);
        x.member(2, 2, 0);
        x.fixture(2, 0);
        x.group(0, 4);
        x.member(4, 0, 3);
        CHECK.due("a GROUP in a GROUP", x.member(4, 1, 2), 1);
        x.member(4, 3, 0);
        int[] want = {3, 1, 0, 0};
        for (int k = 0; k < want.length; k++) {
            CHECK.due("memberAt(4, " + k + ")", x.memberAt(4, k), want[k]);
        }
        CHECK.due("no more", x.memberAt(4, 4), NONE);
        CHECK.due("none before the first", x.memberAt(4, -1), NONE);
        CHECK.due("none there", x.memberAt(4, Integer.MAX_VALUE), NONE);
        CHECK.due("BAD", x.memberAt(5, 0), BAD);
        CHECK.due("BAD", x.memberAt(-1, 0), BAD);
        CHECK.due("no GROUP", x.memberAt(0, 0), SORT);
        CHECK.due("no GROUP", x.memberAt(3, -1), SORT);
        CHECK.found("as found", x, 0, 0, 2, 0, 0, 0);
        x.member(2, 1, 0);
        CHECK.due("what it gets later is there, too", x.memberAt(4, 2), 0);
        CHECK.due("what it gets later is there, too", x.memberAt(4, 4), 0);
    }

    private static void ask(CueBoard x, int f, int ask, int want, int... trace) {
        String when = "asks(" + f + ", " + ask + ")";
        CHECK.due(when, x.asks(f, ask), want);
        CHECK.trace(when, x, trace);
    }

    private static void askedAlone() {
        CueBoard x = grouped();
        ask(x, 0, 0, 1, 1);
        ask(x, 1, 0, 2, 2, 1);
        ask(x, 2, 0, 5, 3);
        ask(x, 3, 0, 3, 4);
        ask(x, 0, 1, 20, 10, 1);
        ask(x, 1, 1, 20, 11, 10, 2, 1);
        ask(x, 2, 1, 150, 12, 10, 3);
        ask(x, 3, 1, 60, 10, 4);
        ask(x, 0, 2, SORT);
        ask(x, 1, 2, SORT);
        ask(x, 2, 2, 360, 20);
        ask(x, 3, 2, 45, 21, 20);
        ask(x, 0, 3, 255, 30);
        ask(x, 1, 3, 255, 30);
        ask(x, 2, 3, 250, 32, 30, 31);
        ask(x, 3, 3, 255, 33, 30, 31);
        ask(x, 4, 1, SORT);
        ask(x, 5, 2, SORT);
        ask(x, 6, 3, SORT);
        CHECK.found("as found", x, 0, 0, 5, 0, 0, 0);
        x.asks(1, 1);
        CHECK.due("BAD", x.asks(8, 0), BAD);
        CHECK.due("BAD", x.asks(-1, 0), BAD);
        CHECK.due("BAD", x.asks(0, 4), BAD);
        CHECK.due("BAD", x.asks(0, -1), BAD);
        CHECK.trace("BAD asks leave THE TRACE", x, 11, 10, 2, 1);
        CHECK.due("trace(-1)", x.trace(-1), NONE);
        CHECK.due("trace(MAX)", x.trace(Integer.MAX_VALUE), NONE);
        x.line(0, 9);
        x.patch(1, 0, 0);
        x.tick(2);
        CHECK.trace("TICKS leave THE TRACE", x, 11, 10, 2, 1);
        x.fixture(3, 0);
        ask(x, 8, 2, NOUGHT, 21, 20);
        x.fixture(3, 100);
        ask(x, 9, 2, 3, 21, 20);
        ask(x, 9, 3, 200, 33, 30, 31);
        CHECK.found("as found", x, 0, 0, 5, 1, 0, 0);
        x.fixture(3, 1);
        ask(x, 10, 2, 360, 21, 20);
        x.fixture(2, 45);
        ask(x, 11, 3, 255, 32, 30, 31);
        x.fixture(2, 46);
        ask(x, 12, 3, 254, 32, 30, 31);
    }

    private static void askedOfGroups() {
        CueBoard x = new CueBoard();
        x.fixture(0, 0);
        x.fixture(1, 0);
        x.group(0, 3);
        x.group(0, 4);
        x.fixture(2, 0);
        x.group(0, 2);
        ask(x, 2, 0, 0, 5);
        x.member(2, 2, 1);
        x.member(2, 0, 0);
        ask(x, 2, 0, 3, 5, 1, 2, 1);
        x.member(3, 0, 2);
        x.member(3, 3, 0);
        ask(x, 3, 0, 4, 5, 5, 1, 2, 1, 1);
        x.member(5, 0, 4);
        x.member(5, 1, 3);
        ask(x, 5, 0, 9, 5, 3, 5, 5, 1, 2, 1, 1);
        // The longest TRACE there is: 6 times 6 times 6 STROBES.
        CueBoard y = new CueBoard();
        y.fixture(1, 0);
        for (int g = 1; g <= 3; g++) {
            y.group(0, 6);
            for (int i = 0; i < 6; i++) {
                y.member(g, i, g - 1);
            }
        }
        CHECK.due("SPAN of 216 STROBES", y.asks(3, 0), 432);
        CHECK.due("the last of 475", y.trace(474), 1);
        CHECK.due("the one before it", y.trace(473), 2);
        CHECK.due("no more", y.trace(475), NONE);
        CHECK.due("the last MEMBER", y.memberAt(3, 215), 0);
        CHECK.due("no more MEMBERS", y.memberAt(3, 216), NONE);
        CHECK.due("six in the first", y.memberAt(1, 5), 0);
        CHECK.due("not seven", y.memberAt(1, 6), NONE);
        CHECK.due("36 in the second", y.memberAt(2, 35), 0);
        CHECK.due("not 37", y.memberAt(2, 36), NONE);
    }

    private static void aboutFixtures() {
        CueBoard x = grouped();
        x.patch(2, 3, 63);
        x.firm(2, true);
        x.firm(6, true);
        int[][] want = {
            {0, 1, NONE, NONE, 0}, {1, 2, NONE, NONE, 0}, {2, 50, 3, 63, 1}, {3, 8, NONE, NONE, 0},
            {4, 0, NONE, NONE, 0}, {4, 1, NONE, NONE, 0}, {4, 2, NONE, NONE, 1}, {0, 7, NONE, NONE, 0},
        };
        for (int f = 0; f < want.length; f++) {
            for (int what = 0; what < 5; what++) {
                CHECK.due("about(" + f + ", " + what + ")", x.about(f, what), want[f][what]);
            }
        }
        CHECK.due("BAD", x.about(8, 0), BAD);
        CHECK.due("BAD", x.about(-1, 0), BAD);
        CHECK.due("BAD", x.about(0, 5), BAD);
        CHECK.due("BAD", x.about(0, -1), BAD);
    }

    private static void patching() {
        CueBoard x = grouped();
        CHECK.due("no such FIXTURE", x.patch(8, 0, 0), BAD);
        CHECK.due("no such FIXTURE", x.patch(-1, 0, 0), BAD);
        CHECK.due("no such LINE", x.patch(0, 4, 0), BAD);
        CHECK.due("no such LINE", x.patch(0, -1, 0), BAD);
        CHECK.due("no such place", x.patch(0, 0, 64), BAD);
        CHECK.due("no such place", x.patch(0, 0, -1), BAD);
        CHECK.due("a GROUP", x.patch(4, 0, 0), SORT);
        CHECK.due("BAD ahead of SORT", x.patch(4, 4, 0), BAD);
        CHECK.found("as found", x, 0, 0, 1, 0, 0, 0);
        CHECK.due("a LINE that was never told", x.patch(2, 1, 63), 1);
        CHECK.due("its LINE", x.about(2, 2), 1);
        CHECK.due("its place", x.about(2, 3), 63);
        CHECK.due("anew", x.patch(2, 0, 0), 1);
        CHECK.due("its LINE", x.about(2, 2), 0);
        CHECK.due("its place", x.about(2, 3), 0);
        CHECK.due("unpatch", x.unpatch(2), 1);
        CHECK.due("its LINE", x.about(2, 2), NONE);
        CHECK.due("its place", x.about(2, 3), NONE);
        CHECK.due("unpatch again", x.unpatch(2), NO);
        CHECK.due("unpatch a GROUP", x.unpatch(4), NO);
        CHECK.due("unpatch", x.unpatch(8), BAD);
        CHECK.due("unpatch", x.unpatch(-1), BAD);
        x.tick(1);
        CHECK.found("nothing is PATCHED", x, 0, 0, 1, 0, 0, 0);
    }

    private static void sharedBytes() {
        CueBoard x = new CueBoard();
        x.line(0, 4);
        for (int f = 0; f < 3; f++) {
            x.fixture(0, 0);
            x.patch(f, 0, 1);
            x.entry(0, f, 0, 10 + f, 0);
        }
        x.list(0, 0, 0);
        x.load(0, 0);
        x.go(0);
        x.tick(1);
        CHECK.bytes("the latest has it", x, 0, 0, 12, 0, 0);
        x.patch(0, 0, 1);
        x.tick(1);
        CHECK.bytes("PATCHED anew", x, 0, 0, 10, 0, 0);
        x.unpatch(0);
        x.tick(1);
        CHECK.bytes("not PATCHED any more", x, 0, 0, 12, 0, 0);
        x.patch(2, 0, 3);
        x.tick(1);
        CHECK.bytes("elsewhere", x, 0, 0, 11, 0, 12);
        x.unpatch(1);
        x.patch(2, 0, 0);
        x.tick(1);
        CHECK.bytes("what nobody has is 0 again", x, 0, 12, 0, 0, 0);
    }

    private static void firmness() {
        CueBoard x = grouped();
        CHECK.due("firm", x.firm(0, true), 1);
        CHECK.due("FIRM", x.about(0, 4), 1);
        CHECK.due("again", x.firm(0, true), 1);
        x.patch(0, 0, 0);
        x.unpatch(0);
        CHECK.due("it stays", x.about(0, 4), 1);
        CHECK.due("not any more", x.firm(0, false), 1);
        CHECK.due("not FIRM", x.about(0, 4), 0);
        CHECK.due("BAD", x.firm(8, true), BAD);
        CHECK.due("BAD", x.firm(-1, false), BAD);
    }
}
