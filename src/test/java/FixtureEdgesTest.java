/** The edges of FIXTURES and GROUPS: part 2 of the document's terms, and promises 7 to 13. */
public final class FixtureEdgesTest {
    private static final int NONE = CueBoard.NONE, BAD = CueBoard.BAD, FULL = CueBoard.FULL;
    private static final int BEYOND = -12, SORT = -13, NOUGHT = -14, FEWER = -15, STORE = -16;
    private static final int MIN = Integer.MIN_VALUE, MAX = Integer.MAX_VALUE;
    private static final Check CHECK = new Check();
    private static final Edges EDGES = new Edges(CHECK);

    public static void main(String[] args) {
        kindsAndNumbers();
        fixturesAtMost();
        fixtureNumbers();
        channelNumbers();
        formsAndPlaces();
        groupsAtMost();
        whatAPlaceGets();
        placesOfGroups();
        whatAFormTakes();
        emptyGroups();
        membersInGroups();
        mostMembers();
        asksAndTheirNumbers();
        spans();
        heats();
        reaches();
        mosts();
        tracesStay();
        aboutNumbers();
        CHECK.end();
    }

    /** Of a KIND (0 to 3), with a number n (0 .. 100): its number. BAD. */
    private static void kindsAndNumbers() {
        EDGES.between("KINDS 0 to 3", Rigs.NEW, 0, 0, 0, 3, "fixture", 0, 7);
        EDGES.between("KINDS 0 to 3", Rigs.LIVELY, 8, 0, 0, 3, "fixture", 0, 7);
        for (int kind = 0; kind < 4; kind++) {
            EDGES.between("n 0 .. 100", Rigs.LIVELY, 8, 1, 0, 100, "fixture", kind, 0);
            for (int n : new int[] {0, 100}) {
                CueBoard x = new CueBoard();
                x.fixture(kind, n);
                CHECK.due("its KIND", x.about(0, 0), kind);
                CHECK.due("its n", x.about(0, 1), n);
                CHECK.due("it is not PATCHED", x.about(0, 2), NONE);
                CHECK.due("it is not PATCHED", x.about(0, 3), NONE);
                CHECK.due("it is not FIRM", x.about(0, 4), 0);
            }
        }
    }

    /** FIXTURES 0 .. 23, as they come. FULL. */
    private static void fixturesAtMost() {
        EDGES.taken("the 24th", Rigs.FIXTURES_23, 23, "fixture", 3, 100);
        EDGES.taken("a GROUP as the 24th", Rigs.FIXTURES_23, 23, "group", 0, 6);
        EDGES.still("FEWER, as there is room", Rigs.FIXTURES_23, FEWER, "group", 0, -1);
        for (int kind = 0; kind < 4; kind++) {
            EDGES.still("a 25th", Rigs.FIXTURES_24, FULL, "fixture", kind, 0);
        }
        EDGES.still("BAD ahead of FULL", Rigs.FIXTURES_24, BAD, "fixture", 4, 0);
        EDGES.still("BAD ahead of FULL", Rigs.FIXTURES_24, BAD, "fixture", 0, 101);
        EDGES.still("a GROUP as the 25th", Rigs.FIXTURES_24, FULL, "group", 0, 0);
        EDGES.still("FULL ahead of FEWER", Rigs.FIXTURES_24, FULL, "group", 0, -1);
        EDGES.still("BAD ahead of FULL", Rigs.FIXTURES_24, BAD, "group", 3, 0);
        EDGES.still("BAD ahead of FULL", Rigs.FIXTURES_24, BAD, "group", 0, 7);
        CueBoard x = new CueBoard();
        for (int f = 0; f < 24; f++) {
            CHECK.due("as they come", x.fixture(f % 4, f), f);
        }
        CHECK.due("24", x.told(0), 24);
        CHECK.due("a 25th", x.fixture(0, 0), FULL);
        CHECK.due("24", x.told(0), 24);
        CHECK.due("the last one's KIND", x.about(23, 0), 3);
        CHECK.due("the last one's n", x.about(23, 1), 23);
    }

    /** No such thing: FIXTURES that have not come. */
    private static void fixtureNumbers() {
        fixtureNumbersUpTo(Rigs.LIVELY, 7);
        fixtureNumbersUpTo(Rigs.FIXTURES_24, 23);
    }

    /** FIXTURE 0 is a DIMMER, and so is the last one, or it is a SCREEN. */
    private static void fixtureNumbersUpTo(Rigs.Rig rig, int last) {
        String why = "FIXTURES 0 .. " + last;
        EDGES.still(why, rig, 0, "about", 0, 0);
        EDGES.between(why, rig, SORT, 0, 0, last, "memberAt", 0, 0);
        EDGES.between(why, rig, 1, 0, 0, last, "patch", 0, 3, 63);
        EDGES.between(why, rig, 1, 0, 0, last, "firm", 0, 1);
        EDGES.between(why, rig, 1, 0, 0, last, "bend", 0, 0, 3);
        EDGES.between(why, rig, 1, 1, 0, last, "entry", 9, 0, 2, 9, 9);
        EDGES.between(why, rig, 1, 0, 0, last, "merge", 0, 0, 1);
        EDGES.between(why, rig, NONE, 1, 0, last, "value", 3, 0, 0);
        EDGES.between(why, rig, SORT, 0, 0, last, "member", 0, 0, NONE);
        for (int f : new int[] {-1, last + 1, MIN, MAX}) {
            EDGES.still(why, rig, BAD, "about", f, 0);
            EDGES.still(why, rig, BAD, "about", f, 4);
            EDGES.still(why, rig, BAD, "unpatch", f);
            for (int ask = 0; ask < 4; ask++) {
                EDGES.still(why, rig, BAD, "asks", f, ask);
            }
        }
        EDGES.still(why, rig, last == 23 ? 3 : 0, "about", last, 0);
        EDGES.taken(why, rig, 1, "unpatch", 0);
    }

    /** CHANNELS (0 .. 2; other numbers are BAD); one that a KIND does not have finds SORT. */
    private static void channelNumbers() {
        Rigs.Rig rig = Rigs.LIVELY;
        int[] fixtures = {0, 1, 2, 3, 5};
        int[] channels = {1, 2, 3, 3, 0};
        for (int kind = 0; kind < 5; kind++) {
            int f = fixtures[kind];
            for (int c : new int[] {-1, 3, MIN, MAX}) {
                EDGES.still("0 .. 2", rig, BAD, "bend", f, c, 0);
                EDGES.still("0 .. 2", rig, BAD, "bend", f, c, NONE);
                EDGES.still("0 .. 2", rig, BAD, "entry", 9, f, c, 0, 0);
                EDGES.still("0 .. 2", rig, BAD, "merge", f, c, 0);
                EDGES.still("0 .. 2", rig, BAD, "merge", f, c, 1);
                EDGES.still("0 .. 2", rig, BAD, "value", 3, f, c);
            }
            for (int c = 0; c < 3; c++) {
                EDGES.taken("an ENTRY takes what is not there, too", rig, 1, "entry", 9, f, c, 0, 0);
                channelOfKind(rig, kind, f, c, c < channels[kind]);
            }
        }
    }

    private static void channelOfKind(Rigs.Rig rig, int kind, int f, int c, boolean has) {
        boolean bends = has && (kind != 2 || c == 2);
        if (has) {
            EDGES.taken("it has it", rig, 1, "merge", f, c, 1);
            EDGES.still("it has it", rig, NONE, "value", 3, f, c);
        } else {
            EDGES.still("no such CHANNEL", rig, SORT, "merge", f, c, 1);
            EDGES.still("no such CHANNEL", rig, SORT, "merge", f, c, 0);
            EDGES.still("no such CHANNEL", rig, SORT, "value", 3, f, c);
        }
        for (int curve : new int[] {NONE, 0, 3}) {
            if (bends) {
                EDGES.taken("it has it, not wide", rig, 1, "bend", f, c, curve);
            } else {
                EDGES.still("no such CHANNEL, or wide", rig, SORT, "bend", f, c, curve);
            }
        }
    }

    /** A GROUP is made for a FORM (0 .. 2), with 0 to 6 places. BAD: FORM, k above 6; FEWER. */
    private static void formsAndPlaces() {
        EDGES.between("FORMS 0 .. 2", Rigs.LIVELY, 8, 0, 0, 2, "group", 0, 3);
        EDGES.between("FORMS 0 .. 2", Rigs.NEW, 0, 0, 0, 2, "group", 0, 3);
        for (int form = 0; form < 3; form++) {
            EDGES.taken("no place", Rigs.LIVELY, 8, "group", form, 0);
            EDGES.taken("6 places", Rigs.LIVELY, 8, "group", form, 6);
            EDGES.still("more than 6", Rigs.LIVELY, BAD, "group", form, 7);
            EDGES.still("more than 6", Rigs.LIVELY, BAD, "group", form, MAX);
            EDGES.still("fewer than none", Rigs.LIVELY, FEWER, "group", form, -1);
            EDGES.still("fewer than none", Rigs.LIVELY, FEWER, "group", form, MIN);
        }
        EDGES.still("BAD ahead of FEWER", Rigs.LIVELY, BAD, "group", 3, -1);
        EDGES.still("BAD ahead of FEWER", Rigs.LIVELY, BAD, "group", -1, -1);
    }

    /** There are three GROUPS at most. FULL: also a fourth one. */
    private static void groupsAtMost() {
        EDGES.taken("a third", Rigs.LIVELY, 8, "group", 1, 1);
        for (int form = 0; form < 3; form++) {
            EDGES.still("a fourth", Rigs.GROUPS_3, FULL, "group", form, 0);
            EDGES.still("a fourth", Rigs.GROUPS_3, FULL, "group", form, 6);
            EDGES.still("FULL ahead of FEWER", Rigs.GROUPS_3, FULL, "group", form, -1);
        }
        EDGES.still("BAD ahead of FULL", Rigs.GROUPS_3, BAD, "group", 3, 0);
        EDGES.still("BAD ahead of FULL", Rigs.GROUPS_3, BAD, "group", 0, 7);
        EDGES.taken("other FIXTURES come still", Rigs.GROUPS_3, 9, "fixture", 0, 0);
        CueBoard x = new CueBoard();
        CHECK.due("the first", x.group(0, 0), 0);
        CHECK.due("the second", x.group(0, 0), 1);
        CHECK.due("FEWER makes none", x.group(0, -1), FEWER);
        CHECK.due("the third", x.group(0, 0), 2);
        CHECK.due("a fourth", x.group(0, 0), FULL);
        CHECK.due("three", x.told(0), 3);
    }

    /** Each a FIXTURE that came before the GROUP, or none. BAD: no such FIXTURES, f did not come before g. */
    private static void whatAPlaceGets() {
        Rigs.Rig rig = Rigs.LIVELY;
        EDGES.taken("the first", rig, 1, "member", 5, 0, 0);
        EDGES.taken("the one right before it", rig, 1, "member", 5, 0, 4);
        EDGES.taken("none", rig, 1, "member", 5, 0, NONE);
        EDGES.taken("none, where none was", rig, 1, "member", 5, 1, NONE);
        for (int f : new int[] {5, 6, 7, 8, -2, MIN, MAX}) {
            EDGES.still("not before it", rig, BAD, "member", 5, 0, f);
            EDGES.still("BAD ahead of BEYOND", rig, BAD, "member", 5, 4, f);
        }
        EDGES.still("not before it", rig, BAD, "member", 6, 0, 6);
        EDGES.still("not before it", rig, BAD, "member", 6, 0, 7);
        for (int f : new int[] {0, 1, 7, -2}) {
            EDGES.still("BAD ahead of SORT", rig, BAD, "member", 0, 0, f);
        }
        for (int g : new int[] {-1, 8, MIN, MAX}) {
            EDGES.still("no such GROUP", rig, BAD, "member", g, 0, 0);
            EDGES.still("no such GROUP", rig, BAD, "member", g, 0, NONE);
        }
        for (int g : new int[] {1, 2, 3, 4, 7}) {
            EDGES.still("no GROUP", rig, SORT, "member", g, 0, 0);
            EDGES.still("no GROUP", rig, SORT, "member", g, 0, NONE);
            EDGES.still("SORT ahead of BEYOND", rig, SORT, "member", g, 9, 0);
            EDGES.still("SORT ahead of BEYOND", rig, SORT, "member", g, -1, g - 1);
        }
        EDGES.still("no GROUP", rig, SORT, "member", 0, 0, NONE);
    }

    /** 0 to 6 places; BEYOND. */
    private static void placesOfGroups() {
        placesOfGroup(Rigs.LIVELY, 5, 4, 0);
        placesOfGroup(Rigs.LIVELY, 6, 2, 0);
        placesOfGroup(Rigs.GROUPS_3, 8, 6, 3);
        Rigs.Rig none = x -> {
            Rigs.LIVELY.set(x);
            x.call("group", 0, 0);
        };
        EDGES.still("no place", none, BEYOND, "member", 8, 0, 0);
        EDGES.still("no place", none, BEYOND, "member", 8, 0, NONE);
        EDGES.still("BEYOND ahead of STORE", Rigs.LIVELY, BEYOND, "member", 6, 2, 3);
        EDGES.still("BEYOND ahead of STORE", Rigs.LIVELY, BEYOND, "member", 6, -1, 5);
    }

    private static void placesOfGroup(Rigs.Rig rig, int g, int n, int f) {
        EDGES.taken("the first place", rig, 1, "member", g, 0, f);
        EDGES.taken("the last place", rig, 1, "member", g, n - 1, f);
        EDGES.taken("the last place", rig, 1, "member", g, n - 1, NONE);
        for (int i : new int[] {n, -1, MIN, MAX}) {
            EDGES.still("no such place", rig, BEYOND, "member", g, i, f);
            EDGES.still("no such place", rig, BEYOND, "member", g, i, NONE);
        }
    }

    /** FORM (0 all FIXTURES, 1 DIMMERS, 2 those that MOVE); of FORM 0 another GROUP, too. STORE. */
    private static void whatAFormTakes() {
        Rigs.Rig[] rigs = new Rigs.Rig[3];
        for (int form = 0; form < 3; form++) {
            int forForm = form;
            rigs[form] = x -> {
                Rigs.LIVELY.set(x);
                x.call("group", forForm, 3);
            };
        }
        // By KINDS: DIMMER, STROBE, MOVER, SCREEN, GROUP.
        int[] fixtures = {7, 1, 2, 4, 6};
        boolean[][] takes = {{true, true, true, true, true}, {true, true, false, false, false},
            {false, false, true, true, false}};
        for (int form = 0; form < 3; form++) {
            for (int kind = 0; kind < 5; kind++) {
                if (takes[form][kind]) {
                    EDGES.taken("FORM " + form, rigs[form], 1, "member", 8, 2, fixtures[kind]);
                } else {
                    EDGES.still("FORM " + form, rigs[form], STORE, "member", 8, 2, fixtures[kind]);
                }
            }
            EDGES.taken("none", rigs[form], 1, "member", 8, 2, NONE);
        }
    }

    /** The k-th MEMBER of a GROUP. NONE: also where its places are none, or empty. */
    private static void emptyGroups() {
        CueBoard x = new CueBoard();
        x.fixture(0, 0);
        x.group(0, 0);
        x.group(0, 6);
        x.group(0, 6);
        for (int g = 1; g <= 3; g++) {
            CHECK.due("no MEMBER", x.memberAt(g, 0), NONE);
            CHECK.due("SPAN", x.asks(g, 0), 0);
            CHECK.trace("SPAN of none", x, 5);
        }
        x.member(3, 0, 1);
        x.member(3, 5, 2);
        CHECK.due("empty ones in it", x.memberAt(3, 0), NONE);
        CHECK.due("SPAN", x.asks(3, 0), 0);
        CHECK.trace("SPAN of empty ones", x, 5, 5, 5);
        x.member(2, 5, 0);
        CHECK.due("the last place of one in it", x.memberAt(3, 0), 0);
        CHECK.due("no more", x.memberAt(3, 1), NONE);
        x.member(2, 5, NONE);
        CHECK.due("none again", x.memberAt(3, 0), NONE);
        // A CUE with an empty GROUP begins, and finds nothing.
        x.entry(0, 3, 2, 9, 9);
        x.list(0, 0, 0);
        x.load(0, 0);
        CHECK.due("go", x.go(0), 0);
        CHECK.due("no CHANNEL", x.playback(0, 6), 0);
        CHECK.found("nothing", x, 0, 0, 0, 0, 0, 0);
    }

    /** MEMBERS: of its places in order, those in a GROUP at that place in theirs. */
    private static void membersInGroups() {
        Rigs.Rig rig = Rigs.LIVELY;
        int[] members = {0, 2, 1};
        for (int k = 0; k < 3; k++) {
            EDGES.still("in order", rig, members[k], "memberAt", 5, k);
        }
        for (int k : new int[] {3, 4, 216, MAX, -1, MIN}) {
            EDGES.still("no such MEMBER", rig, NONE, "memberAt", 5, k);
            EDGES.still("no GROUP", rig, SORT, "memberAt", 4, k);
            EDGES.still("no FIXTURE", rig, BAD, "memberAt", 8, k);
            EDGES.still("no FIXTURE", rig, BAD, "memberAt", -1, k);
        }
        EDGES.still("the only one", rig, 1, "memberAt", 6, 0);
        EDGES.still("no more", rig, NONE, "memberAt", 6, 1);
        Rigs.Rig nested = x -> {
            Rigs.LIVELY.set(x);
            x.call("group", 0, 5);
            Rigs.all(x, "member", new int[][] {{8, 0, 7}, {8, 1, 5}, {8, 2, 6}, {8, 4, 3}});
        };
        int[] all = {7, 0, 2, 1, 1, 3};
        for (int k = 0; k < all.length; k++) {
            EDGES.still("theirs at that place", nested, all[k], "memberAt", 8, k);
        }
        EDGES.still("no more", nested, NONE, "memberAt", 8, all.length);
    }

    /** Three GROUPS of 6 places, each in the next: 216 MEMBERS. */
    private static void mostMembers() {
        CueBoard x = new CueBoard();
        for (int f = 0; f < 6; f++) {
            x.fixture(f % 4, 0);
        }
        for (int g = 6; g < 9; g++) {
            x.group(0, 6);
            for (int i = 0; i < 6; i++) {
                x.member(g, i, g == 6 ? i : g - 1);
            }
        }
        for (int k : new int[] {0, 5, 6, 11, 35, 36, 107, 210, 214, 215}) {
            CHECK.due("memberAt(8, " + k + ")", x.memberAt(8, k), k % 6);
        }
        CHECK.due("no more", x.memberAt(8, 216), NONE);
        CHECK.due("36 in the second", x.memberAt(7, 35), 5);
        CHECK.due("no more", x.memberAt(7, 36), NONE);
        CHECK.due("SPAN", x.asks(8, 0), 36 * (1 + 2 + 5 + 3 + 1 + 2));
        CHECK.due("the first BODY", x.trace(0), 5);
        CHECK.due("the last BODY but one", x.trace(1 + 6 + 36 * 9 - 2), 2);
        CHECK.due("the last BODY", x.trace(1 + 6 + 36 * 9 - 1), 1);
        CHECK.due("no more", x.trace(1 + 6 + 36 * 9), NONE);
        // Each place finds by itself: RATE is there for two of six.
        x.entry(0, 8, 1, 9, 0);
        x.list(0, 0, 0);
        x.load(0, 0);
        x.go(0);
        CHECK.found("DIMMERS have no such CHANNEL", x, 0, 0, 36 * 2, 0, 0, 0);
        CHECK.due("CHANNELS", x.playback(0, 6), 4);
        longestTrace();
    }

    /** 216 STROBES, of two BODIES each, in 43 GROUPS. */
    private static void longestTrace() {
        CueBoard x = new CueBoard();
        x.fixture(1, 0);
        for (int g = 1; g <= 3; g++) {
            x.group(0, 6);
            for (int i = 0; i < 6; i++) {
                x.member(g, i, g - 1);
            }
        }
        CHECK.due("SPAN", x.asks(3, 0), 432);
        int[] first = {5, 5, 5, 2, 1, 2, 1};
        for (int i = 0; i < first.length; i++) {
            CHECK.due("the first BODIES", x.trace(i), first[i]);
        }
        CHECK.due("the last but one", x.trace(473), 2);
        CHECK.due("the last", x.trace(474), 1);
        CHECK.due("no more", x.trace(475), NONE);
        CHECK.due("a short one", x.asks(0, 0), 2);
        CHECK.trace("empty ahead of each ask", x, 2, 1);
    }

    /** ASK 0 SPAN, 1 HEAT, 2 REACH, 3 MOST of a FIXTURE. BAD; SORT: it does not SHOW, MOVE; NOUGHT. */
    private static void asksAndTheirNumbers() {
        Rigs.Rig rig = Rigs.LIVELY;
        // By FIXTURES of LIVELY, by ASKS.
        int[][] want = {{1, 20, SORT, 255}, {2, 20, SORT, 255}, {5, 170, 360, 230}, {3, 60, NOUGHT, 255},
            {3, 60, 6, 240}, {8, SORT, SORT, SORT}, {2, SORT, SORT, SORT}, {1, 20, SORT, 255}};
        for (int f = 0; f < want.length; f++) {
            for (int ask = 0; ask < 4; ask++) {
                EDGES.still("ASKS 0 .. 3", rig, want[f][ask], "asks", f, ask);
            }
            for (int ask : new int[] {-1, 4, MIN, MAX}) {
                EDGES.still("ASKS 0 .. 3", rig, BAD, "asks", f, ask);
            }
        }
    }

    private static void ask(CueBoard x, int f, int ask, int want, int... trace) {
        String when = "asks(" + f + ", " + ask + ") of KIND " + x.about(f, 0) + " with " + x.about(f, 1);
        CHECK.due(when, x.asks(f, ask), want);
        CHECK.trace(when, x, trace);
    }

    /** FIXTURES of a KIND, with these n, one after the other. */
    private static CueBoard of(int kind, int... ns) {
        CueBoard x = new CueBoard();
        for (int n : ns) {
            x.fixture(kind, n);
        }
        return x;
    }

    /** SPAN, of all: n does not matter. */
    private static void spans() {
        for (int i = 0; i < 2; i++) {
            ask(of(0, 0, 100), i, 0, 1, 1);
            ask(of(1, 0, 100), i, 0, 2, 2, 1);
            ask(of(2, 0, 100), i, 0, 5, 3);
            ask(of(3, 0, 100), i, 0, 3, 4);
        }
    }

    /** HEAT, of what SHOWS: a MOVER's with n (0 .. 100). */
    private static void heats() {
        for (int i = 0; i < 2; i++) {
            ask(of(0, 0, 100), i, 1, 20, 10, 1);
            ask(of(1, 0, 100), i, 1, 20, 11, 10, 2, 1);
            ask(of(2, 0, 100), i, 1, 100 + 100 * i, 12, 10, 3);
            ask(of(3, 0, 100), i, 1, 60, 10, 4);
        }
    }

    /** REACH, of what MOVES: a SCREEN's by n (NOUGHT). */
    private static void reaches() {
        CueBoard x = of(3, 0, 1, 2, 7, 99, 100);
        int[] want = {NOUGHT, 360, 180, 51, 3, 3};
        for (int f = 0; f < want.length; f++) {
            ask(x, f, 2, want[f], 21, 20);
        }
        CHECK.found("one with n = 0", x, 0, 0, 0, 1, 0, 0);
        CueBoard y = of(2, 0, 100);
        ask(y, 0, 2, 360, 20);
        ask(y, 1, 2, 360, 20);
        CHECK.found("a MOVER shares nothing", y, 0, 0, 0, 0, 0, 0);
    }

    /** MOST: the lesser one of 255 and 300 less n; both are the same at 45. */
    private static void mosts() {
        int[] ns = {0, 44, 45, 46, 100};
        int[] want = {255, 255, 255, 254, 200};
        for (int i = 0; i < ns.length; i++) {
            ask(of(2, ns), i, 3, want[i], 32, 30, 31);
            ask(of(3, ns), i, 3, want[i], 33, 30, 31);
            ask(of(0, ns), i, 3, 255, 30);
            ask(of(1, ns), i, 3, 255, 30);
        }
    }

    /** THE TRACE of the latest ask that was not BAD (empty ahead of each ask; TICKS leave it as it is). NONE. */
    private static void tracesStay() {
        CueBoard x = of(1, 5);
        x.fixture(3, 0);
        x.group(0, 1);
        x.line(0, 9);
        x.patch(0, 0, 0);
        x.patch(1, 0, 2);
        CHECK.trace("empty at first", x);
        CHECK.due("BAD ahead of any", x.asks(3, 0), BAD);
        CHECK.trace("empty still", x);
        CHECK.due("HEAT", x.asks(0, 1), 20);
        for (int i : new int[] {-1, 4, MIN, MAX}) {
            CHECK.due("no such number", x.trace(i), NONE);
        }
        x.asks(3, 0);
        x.asks(-1, 1);
        x.asks(0, 4);
        x.asks(0, -1);
        CHECK.trace("BAD asks leave it", x, 11, 10, 2, 1);
        x.tick(5);
        x.memberAt(2, 0);
        x.replay();
        CHECK.trace("TICKS leave it", x, 11, 10, 2, 1);
        CHECK.due("SORT", x.asks(0, 2), SORT);
        CHECK.trace("an ask that finds SORT has no BODY", x);
        CHECK.due("NOUGHT", x.asks(1, 2), NOUGHT);
        CHECK.trace("BODIES had begun", x, 21, 20);
        CHECK.due("SORT", x.asks(2, 3), SORT);
        CHECK.trace("an ask that finds SORT has no BODY", x);
        x.asks(1, 3);
        CHECK.due("back", x.back(0), 5);
        CHECK.trace("BACK empties it", x);
    }

    /** Of a FIXTURE: 0 KIND to 4 whether it is FIRM. BAD. */
    private static void aboutNumbers() {
        int[][] want = {{0, 0, 0, 0, 1}, {1, 5, 0, 1, 0}, {2, 70, 1, 60, 0}, {3, 0, 0, 2, 0}, {3, 60, 2, 1, 0},
            {4, 0, NONE, NONE, 0}, {4, 1, NONE, NONE, 0}, {0, 9, 3, 0, 0}};
        for (int f = 0; f < want.length; f++) {
            for (int what = 0; what < 5; what++) {
                EDGES.still("0 .. 4", Rigs.LIVELY, want[f][what], "about", f, what);
            }
            for (int what : new int[] {-1, 5, MIN, MAX}) {
                EDGES.still("0 .. 4", Rigs.LIVELY, BAD, "about", f, what);
            }
        }
    }
}
