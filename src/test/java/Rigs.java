/** Boards as the tests of edges want them, each set up within the calls that THE BOOK has, but where it is told. */
final class Rigs {
    /** Sets a new board up. */
    interface Rig {
        void set(Run x);
    }

    static final int NUMBERLESS = 0x7FC00000;

    static final Rig NEW = x -> { };
    static final Rig NEW_DIMMER = x -> x.call("fixture", 0, 0);
    /** Some of all, in the midst of it: FADES go, a CUE will be followed, a LINE is cut by HEAT, some was found. */
    static final Rig LIVELY = Rigs::lively;
    /** What THE BOOK of LIVELY has, up to right behind its TICKS 3, 2 and 1. */
    static final Rig LIVELY_BEHIND_3 = x -> {
        livelyBeforeTicks(x);
        x.call("tick", 2);
        x.call("go", 1);
        x.call("tick", 1);
    };
    static final Rig LIVELY_BEHIND_2 = x -> {
        livelyBeforeTicks(x);
        x.call("tick", 2);
    };
    static final Rig LIVELY_BEHIND_1 = x -> {
        livelyBeforeTicks(x);
        x.call("tick", 1);
    };
    /**
     * LIVELY, later: in a BLACKOUT, PLAYBACK 0 at its second CUE; RATE of the STROBE has been BENT to 100, is MERGED by
     * the latest, and will be in the HOLE of its CURVE in the next TICK.
     */
    static final Rig LATE = x -> {
        LIVELY.set(x);
        x.call("blackout", 1);
        x.call("go", 0);
        x.call("patch", 1, 1, 0);
        x.call("tick", 4);
        x.call("merge", 1, 1, 1);
        x.call("entry", 9, 1, 1, 15, 0);
        x.call("list", 3, 9, 0);
        x.call("load", 3, 3);
        x.call("go", 3);
    };
    static final Rig ALL_PLUGGED = x -> {
        LIVELY.set(x);
        x.call("plug", 2);
        x.call("line", 3, 2);
    };
    static final Rig ALL_PULLED = x -> {
        ALL_PLUGGED.set(x);
        for (int l = 0; l < 4; l++) {
            x.call("pull", l);
        }
    };
    static final Rig FIXTURES_23 = x -> fixtures(x, 23);
    static final Rig FIXTURES_24 = x -> fixtures(x, 24);
    /** The GROUPS of LIVELY, and a third one, FIXTURE 8, of FORM 2 with 6 places. */
    static final Rig GROUPS_3 = x -> {
        LIVELY.set(x);
        x.call("group", 2, 6);
        x.call("member", 8, 5, 4);
    };
    /** CURVE 3 has POINTS at 1 to 6 and 200. */
    static final Rig POINTS_7 = x -> points(x, 7);
    /** CURVE 3 has POINTS at 1 to 6, 200 and 201. */
    static final Rig POINTS_8 = x -> points(x, 8);
    static final Rig ENTRIES_11 = x -> entries(x, 11);
    static final Rig ENTRIES_12 = x -> entries(x, 12);
    static final Rig CUES_7 = x -> cues(x, 7);
    /** LIST 3 has CUES 15 to 8, and PLAYBACK 3 has it. */
    static final Rig CUES_8 = x -> cues(x, 8);
    /** LIST 3 has CUE 15 (of 12 ENTRIES), and all PLAYBACKS have it. */
    static final Rig LOADED = x -> {
        ENTRIES_12.set(x);
        x.call("list", 3, 15, 0);
        for (int p = 0; p < 4; p++) {
            x.call("load", p, 3);
        }
    };
    static final Rig BOOK_119 = x -> book(x, 119);
    static final Rig BOOK_120 = x -> book(x, 120);
    static final Rig BOOK_121 = x -> book(x, 121);
    /** THE BOOK has less than all of these calls. */
    static final Rig TICKS_1996 = x -> ticks(x, 1996);
    static final Rig TICKS_2000 = x -> ticks(x, 2000);

    private Rigs() {
    }

    static void all(Run x, String name, int[]... rows) {
        for (int[] row : rows) {
            x.call(name, row);
        }
    }

    /**
     * LINE 0 has 12 places, 1 has 64, 2 is PULLED with 3, 3 was never told. FIXTURES: 0 DIMMER, 1 STROBE, 2 MOVER,
     * 3 and 4 SCREENS, 5 GROUP of FORM 0 with 4 places, 6 GROUP of FORM 1 with 2, 7 DIMMER.
     */
    private static void lively(Run x) {
        livelyBeforeTicks(x);
        x.call("tick", 2);
        x.call("go", 1);
        x.call("tick", 1);
        x.call("at", 3, 0);
        x.call("line", 0, -1);
        x.call("asks", 5, 0);
    }

    private static void livelyBeforeTicks(Run x) {
        all(x, "line", new int[][] {{0, 12}, {1, 64}, {2, 3}});
        x.call("pull", 2);
        all(x, "fixture", new int[][] {{0, 0}, {1, 5}, {2, 70}, {3, 0}, {3, 60}});
        all(x, "group", new int[][] {{0, 4}, {1, 2}});
        x.call("fixture", 0, 9);
        all(x, "member", new int[][] {{5, 0, 0}, {5, 2, 2}, {5, 3, 1}, {6, 0, 1}});
        all(x, "patch", new int[][] {{0, 0, 0}, {1, 0, 1}, {2, 1, 60}, {3, 0, 2}, {4, 2, 1}, {7, 3, 0}});
        x.call("firm", 0, 1);
        all(x, "point", new int[][] {{0, 10, 0}, {0, 20, NUMBERLESS}, {0, 30, 0x42C80000}, {1, 0, 0x43480000}});
        all(x, "bend", new int[][] {{1, 1, 0}, {3, 0, 1}});
        all(x, "entry", new int[][] {{0, 5, 0, 200, 9}, {0, 3, 0, 100, 10}, {0, 3, 1, 255, 0}, {1, 2, 1, 40000, 3},
            {1, 1, 1, 35, 4}, {2, 0, 0, 90, 8}, {2, 4, 2, 77, 0}, {2, 7, 0, 255, 3}, {2, 5, 2, 150, 6}});
        all(x, "list", new int[][] {{0, 0, 6}, {0, 1, 0}, {0, 2, 5}, {1, 2, 3}, {1, 0, 0}, {2, 1, 1}});
        all(x, "load", new int[][] {{0, 0}, {1, 1}, {2, 2}});
        all(x, "merge", new int[][] {{0, 0, 1}, {3, 1, 1}});
        all(x, "limit", new int[][] {{0, 40}, {2, 10}});
        all(x, "master", new int[][] {{1, 80}, {-1, 90}});
        x.call("go", 0);
    }

    private static void fixtures(Run x, int n) {
        lively(x);
        for (int f = 8; f < n; f++) {
            x.call("fixture", f % 4, f);
        }
    }

    private static void points(Run x, int n) {
        lively(x);
        for (int i = 1; i <= n; i++) {
            x.call("point", 3, i < 7 ? i : 193 + i, 0x42C80000);
        }
    }

    private static void entries(Run x, int n) {
        lively(x);
        for (int i = 0; i < n; i++) {
            x.call("entry", 15, i % 5, i % 3, 20 * i, i % 2);
        }
    }

    private static void cues(Run x, int n) {
        lively(x);
        for (int i = 0; i < n; i++) {
            x.call("list", 3, 15 - i, 0);
        }
        x.call("load", 3, 3);
    }

    private static void book(Run x, int n) {
        lively(x);
        for (int i = x.call("told", 2); i < n; i++) {
            x.call("limit", 3, i);
        }
    }

    private static void ticks(Run x, int n) {
        lively(x);
        int left = n - x.call("told", 1);
        while (left > 0) {
            int some = Math.min(left, 5);
            x.call("tick", some);
            left -= some;
        }
    }
}
