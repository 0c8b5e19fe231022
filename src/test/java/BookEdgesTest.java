import java.math.BigInteger;
import java.util.Arrays;

/** The edges of THE BOOK and THE DIGEST: part 7 of the document's terms, and promises 36 to 39. */
public final class BookEdgesTest {
    private static final int NONE = CueBoard.NONE, BAD = CueBoard.BAD, NO = CueBoard.NO;
    private static final int NOTHING = -11, FEWER = -15;
    private static final int MIN = Integer.MIN_VALUE, MAX = Integer.MAX_VALUE;
    private static final Check CHECK = new Check();
    private static final Edges EDGES = new Edges(CHECK);

    /** A call of each kind that acts, as LIVELY takes it, and what it answers. */
    private static final Object[][] ACTS = {{1, "line", 3, 64}, {1, "pull", 0}, {1, "plug", 2}, {8, "fixture", 0, 0},
        {8, "group", 0, 0}, {1, "member", 5, 0, 0}, {1, "patch", 0, 0, 0}, {1, "unpatch", 0}, {1, "firm", 0, 1},
        {4, "point", 0, 31, 0}, {1, "bend", 0, 0, NONE}, {1, "entry", 9, 0, 0, 0, 0}, {4, "list", 0, 0, 0},
        {1, "load", 3, NONE}, {1, "go", 2}, {0, "stop", 3}, {0, "release", 3}, {100, "master", 0, 100},
        {1, "merge", 0, 0, 1}, {1, "limit", 0, 40}, {0, "blackout", 0}, {4, "tick", 1}};
    /** A call of each kind that is refused by LIVELY, or finds something, or only asks. */
    private static final Object[][] NO_ACTS = {{BAD, "line", 4, 0}, {FEWER, "line", 0, -1}, {NO, "pull", 2},
        {NO, "plug", 0}, {BAD, "fixture", 4, 0}, {FEWER, "group", 0, -1}, {-16, "member", 6, 0, 2},
        {-13, "patch", 5, 0, 0}, {NO, "unpatch", 5}, {BAD, "firm", 8, 1}, {BAD, "point", 0, 30, 0},
        {-13, "bend", 2, 0, 0}, {BAD, "entry", 16, 0, 0, 0, 0}, {BAD, "list", 4, 0, 0}, {BAD, "load", 0, 4},
        {NO, "go", 3}, {BAD, "stop", 4}, {BAD, "release", 4}, {BAD, "master", 0, 101}, {-13, "merge", 5, 0, 1},
        {BAD, "limit", 0, -1}, {BAD, "tick", 0}, {NOTHING, "at", 3, 0}, {-12, "wide", 0, 11}, {0, "memberAt", 5, 0},
        {8, "asks", 5, 0}, {5, "trace", 0}, {4, "about", 5, 0}, {0, "curve", 0, 10}, {255, "value", 0, 3, 1},
        {100, "playback", 0, 2}, {0, "over", 0}, {1, "found", 5}, {8, "told", 0}, {BAD, "back", 51},
        {NO, "back", 50}};

    public static void main(String[] args) {
        digestAtFirst();
        digestWraps();
        digestOfAllPlaces();
        digestOfNoPlaces();
        digestsThatLookLikeAnswers();
        bookHas120();
        whatFillsIt();
        moreThanItHas();
        backNumbers();
        backWithoutSoManyTicks();
        backIsAsIfNothingElse();
        backWithinACall();
        backFromAFullBook();
        toldNumbers();
        theLastCallThatIsPromised();
        CHECK.end();
    }

    private static int[] numbers(Object[] row) {
        int[] a = new int[row.length - 2];
        for (int i = 0; i < a.length; i++) {
            a[i] = (Integer) row[i + 2];
        }
        return a;
    }

    /** A LINE of SCREENS, place by place at these bytes (the last bytes of the last one beyond it). */
    private static CueBoard bytes(int l, int... bytes) {
        CueBoard x = new CueBoard();
        x.line(l, bytes.length);
        for (int p = 0; p < bytes.length; p++) {
            if (p % 3 == 0) {
                x.patch(x.fixture(3, 0), l, p);
            }
            x.entry(p / 12, p / 3, p % 3, bytes[p], 0);
        }
        x.load(0, 0);
        for (int cue = 0; 12 * cue < bytes.length; cue++) {
            x.list(0, cue, 0);
            x.go(0);
        }
        return x;
    }

    private static int[] allOf(int n, int value) {
        int[] bytes = new int[n];
        Arrays.fill(bytes, value);
        return bytes;
    }

    /** THE DIGEST: 0 at first. */
    private static void digestAtFirst() {
        CueBoard x = bytes(0, 1, 2, 3);
        CHECK.due("before a TICK", x.digest(), 0);
        CHECK.due("PLAYED AGAIN", x.replay(), 0);
        x.tick(1);
        CHECK.due("behind the first", x.digest(), (31 + 2) * 31 + 3);
        CHECK.due("PLAYED AGAIN", x.replay(), (31 + 2) * 31 + 3);
    }

    /** It becomes 31 times it, and the byte (ints; wraps). */
    private static void digestWraps() {
        // 255 times (31 to the n-th, less 1) by 30: 243347775, 7543781280, 233857219935.
        int[] ns = {5, 6, 7};
        int[] want = {243347775, -1046153312, 1928985951};
        for (int i = 0; i < ns.length; i++) {
            CueBoard x = bytes(i, allOf(ns[i], 255));
            x.tick(1);
            CHECK.due(ns[i] + " bytes", x.digest(), want[i]);
            CHECK.due("PLAYED AGAIN", x.replay(), want[i]);
        }
        // The last that does not wrap, and the first that does.
        CueBoard most = bytes(0, digits(2147483647L));
        most.tick(1);
        CHECK.due("the greatest int", most.digest(), MAX);
        CueBoard least = bytes(0, digits(2147483648L));
        least.tick(1);
        CHECK.due("the least int", least.digest(), MIN);
        CueBoard zero = bytes(0, digits(4294967296L));
        zero.tick(1);
        CHECK.due("0 again", zero.digest(), 0);
        zero.tick(1);
        CHECK.due("from 0 again", zero.digest(), 0);
    }

    /** The bytes that give this number behind one TICK. */
    private static int[] digits(long number) {
        int[] bytes = new int[7];
        long left = number;
        for (int p = 6; p >= 0; p--) {
            bytes[p] = (int) (left % 31);
            left /= 31;
        }
        return bytes;
    }

    /** At the end of each TICK, for each LINE by numbers, place by place of PLUGGED ones. */
    private static void digestOfAllPlaces() {
        CueBoard x = bytes(1, allOf(64, 255));
        x.line(3, 64);
        x.line(2, 1);
        BigInteger digest = BigInteger.ZERO;
        for (int tick = 1; tick <= 3; tick++) {
            x.tick(1);
            for (int p = 0; p < 64 + 1 + 64; p++) {
                digest = digest.multiply(BigInteger.valueOf(31)).add(BigInteger.valueOf(p < 64 ? 255 : 0));
            }
            CHECK.due("behind TICK " + tick, x.digest(), digest.intValue());
        }
        x.pull(1);
        x.tick(1);
        digest = digest.multiply(BigInteger.valueOf(31).pow(65));
        CHECK.due("PLUGGED ones alone", x.digest(), digest.intValue());
        x.plug(1);
        CHECK.due("not before a TICK", x.digest(), digest.intValue());
    }

    /** LINES of no places, and no LINES, leave it as it is; places of 0 do not. */
    private static void digestOfNoPlaces() {
        CueBoard x = bytes(0, 7);
        x.tick(1);
        CHECK.due("a byte", x.digest(), 7);
        x.line(0, 0);
        x.line(3, 0);
        x.tick(5);
        CHECK.due("no places", x.digest(), 7);
        x.pull(0);
        x.pull(3);
        x.tick(5);
        CHECK.due("no PLUGGED LINES", x.digest(), 7);
        x.line(2, 1);
        x.tick(1);
        CHECK.due("a place of 0", x.digest(), 7 * 31);
        CueBoard none = new CueBoard();
        none.tick(5);
        CHECK.due("no LINES", none.digest(), 0);
    }

    /** NO (a DIGEST may be that, too: told(2) tells); a DIGEST is no FINDING, nor is it refused. */
    private static void digestsThatLookLikeAnswers() {
        for (int answer = -17; answer < 0; answer++) {
            CueBoard x = bytes(0, digits((1L << 32) + answer));
            x.tick(1);
            int found = x.found(2);
            CHECK.due("THE DIGEST", x.digest(), answer);
            CHECK.due("PLAYED AGAIN", x.replay(), answer);
            CHECK.due("told(2) tells", x.told(2), 18);
            CHECK.found("no FINDING", x, 0, found, 0, 0, 0, 0);
            CHECK.due("back", x.back(0), 1);
            CHECK.due("THE DIGEST", x.digest(), answer);
        }
    }

    /** THE BOOK has the first 120 calls that act. Both NO: there were more such calls than THE BOOK has. */
    private static void bookHas120() {
        for (Object[] row : ACTS) {
            EDGES.taken("the 120th", Rigs.BOOK_119, (Integer) row[0], (String) row[1], numbers(row));
            EDGES.taken("the 121st", Rigs.BOOK_120, (Integer) row[0], (String) row[1], numbers(row));
            EDGES.taken("one more", Rigs.BOOK_121, (Integer) row[0], (String) row[1], numbers(row));
        }
        EDGES.still("119", Rigs.BOOK_119, 119, "told", 2);
        EDGES.still("120", Rigs.BOOK_120, 120, "told", 2);
        EDGES.still("121: more than it has", Rigs.BOOK_121, 121, "told", 2);
        Run x = new Run();
        Rigs.BOOK_120.set(x);
        int digest = x.call("digest");
        EDGES.still("PLAYED AGAIN", Rigs.BOOK_119, digest, "replay");
        EDGES.still("PLAYED AGAIN", Rigs.BOOK_120, digest, "replay");
        EDGES.still("more than it has", Rigs.BOOK_121, NO, "replay");
        EDGES.still("THE DIGEST is told all the same", Rigs.BOOK_121, digest, "digest");
        CHECK.due("back", x.call("back", 2), 1);
        for (int n : new int[] {0, 1, 2, 3, 50}) {
            EDGES.still("more than it has", Rigs.BOOK_121, NO, "back", n);
        }
        for (int n : new int[] {-1, 51, MIN, MAX}) {
            EDGES.still("BAD ahead of NO", Rigs.BOOK_121, BAD, "back", n);
        }
    }

    /** All that act, also where all stays as it was, and that answered what is not below 0; nothing else. */
    private static void whatFillsIt() {
        for (Object[] row : ACTS) {
            EDGES.taken("it acts", Rigs.LIVELY, (Integer) row[0], (String) row[1], numbers(row));
        }
        for (Object[] row : NO_ACTS) {
            EDGES.still("it does not act", Rigs.LIVELY, (Integer) row[0], (String) row[1], numbers(row));
            EDGES.still("it does not act", Rigs.BOOK_120, (Integer) row[0], (String) row[1], numbers(row));
            EDGES.still("it does not act", Rigs.BOOK_121, (Integer) row[0], (String) row[1], numbers(row));
        }
        EDGES.still("it asks", Rigs.BOOK_121, 40, "heat", 0);
    }

    /** 121 stays 121, however many there were. */
    private static void moreThanItHas() {
        CueBoard x = new CueBoard();
        for (int i = 1; i <= 200; i++) {
            CHECK.due("tick", x.tick(1), i);
            CHECK.due("told(2) behind " + i, x.told(2), Math.min(i, 121));
        }
        for (int n = 119; n <= 123; n++) {
            CueBoard y = new CueBoard();
            y.line(0, 0);
            for (int i = 1; i < n; i++) {
                y.tick(1);
            }
            CHECK.due("replay behind " + n, y.replay(), n <= 120 ? 0 : NO);
            CHECK.due("back behind " + n, y.back(50), n <= 120 ? n - 51 : NO);
            CHECK.due("calls in THE BOOK", y.told(2), n <= 120 ? n - 50 : 121);
        }
    }

    /** BACK by n (0 .. 50). BAD. */
    private static void backNumbers() {
        for (int n : new int[] {-1, 51, MIN, MAX}) {
            EDGES.still("n 0 .. 50", Rigs.NEW, BAD, "back", n);
            EDGES.still("n 0 .. 50", Rigs.LIVELY, BAD, "back", n);
        }
        for (int ticks = 49; ticks <= 53; ticks++) {
            for (int n = 48; n <= 51; n++) {
                CueBoard x = new CueBoard();
                x.line(0, 1);
                for (int i = 0; i < ticks; i++) {
                    x.tick(1);
                }
                int want = n > 50 ? BAD : n >= ticks ? NO : ticks - n;
                CHECK.due("back(" + n + ") of " + ticks, x.back(n), want);
                CHECK.due("TICKS", x.told(1), want < 0 ? ticks : want);
                CHECK.due("calls in THE BOOK", x.told(2), 1 + (want < 0 ? ticks : want));
            }
        }
    }

    /** NO: also n TICKS and one more did not go. */
    private static void backWithoutSoManyTicks() {
        for (int n : new int[] {0, 1, 50}) {
            EDGES.still("no TICK", Rigs.NEW, NO, "back", n);
            EDGES.still("no TICK", Rigs.NEW_DIMMER, NO, "back", n);
        }
        for (int n : new int[] {3, 4, 50}) {
            EDGES.still("three TICKS", Rigs.LIVELY, NO, "back", n);
        }
        CueBoard x = new CueBoard();
        x.tick(1);
        CHECK.due("one TICK", x.back(1), NO);
        CHECK.due("one TICK", x.back(0), 1);
        CHECK.due("and again", x.back(0), 1);
        CHECK.due("one TICK", x.back(1), NO);
    }

    private static Rigs.Rig back(Rigs.Rig rig, int... ns) {
        return x -> {
            rig.set(x);
            for (int n : ns) {
                x.call("back", n);
            }
        };
    }

    /** All is as if nothing but THE BOOK up to right behind the n-th last TICK had been called (FOUND; THE TRACE). */
    private static void backIsAsIfNothingElse() {
        EDGES.alike("back(0)", Rigs.LIVELY_BEHIND_3, back(Rigs.LIVELY, 0));
        EDGES.alike("back(1)", Rigs.LIVELY_BEHIND_2, back(Rigs.LIVELY, 1));
        EDGES.alike("back(2)", Rigs.LIVELY_BEHIND_1, back(Rigs.LIVELY, 2));
        EDGES.alike("back(0), back(1)", Rigs.LIVELY_BEHIND_2, back(Rigs.LIVELY, 0, 1));
        EDGES.alike("back(1), back(1)", Rigs.LIVELY_BEHIND_1, back(Rigs.LIVELY, 1, 1));
        EDGES.alike("back(2), back(0)", Rigs.LIVELY_BEHIND_1, back(Rigs.LIVELY, 2, 0));
        EDGES.alike("back(2), back(1) is NO", Rigs.LIVELY_BEHIND_1, back(Rigs.LIVELY, 2, 1));
        Rigs.Rig[] fullOnes = {Rigs.ALL_PULLED, Rigs.FIXTURES_24, Rigs.GROUPS_3, Rigs.POINTS_8, Rigs.ENTRIES_12,
            Rigs.CUES_8, Rigs.LOADED, Rigs.BOOK_120};
        for (Rigs.Rig rig : fullOnes) {
            EDGES.alike("what came behind it is out", Rigs.LIVELY_BEHIND_3, back(rig, 0));
            EDGES.alike("what came behind it is out", Rigs.LIVELY_BEHIND_1, back(rig, 2));
        }
        for (Object[] row : ACTS) {
            Rigs.Rig more = x -> {
                Rigs.LIVELY.set(x);
                x.call((String) row[1], numbers(row));
            };
            int n = row[1].equals("tick") ? 1 : 0;
            EDGES.alike("back behind " + row[1], Rigs.LIVELY_BEHIND_3, back(more, n));
        }
        everyPartGoesBack();
        EDGES.still("calls in THE BOOK", Rigs.LIVELY, 57, "told", 2);
        EDGES.still("calls in THE BOOK", back(Rigs.LIVELY, 0), 57, "told", 2);
        EDGES.still("calls in THE BOOK", back(Rigs.LIVELY, 1), 55, "told", 2);
        EDGES.still("calls in THE BOOK", back(Rigs.LIVELY, 2), 55, "told", 2);
    }

    /** A board, and calls behind it. */
    private static Rigs.Rig then(Rigs.Rig rig, Object[]... rows) {
        return x -> {
            rig.set(x);
            for (Object[] row : rows) {
                x.call((String) row[0], behindName(row));
            }
        };
    }

    private static int[] behindName(Object[] row) {
        int[] a = new int[row.length - 1];
        for (int i = 0; i < a.length; i++) {
            a[i] = (Integer) row[i + 1];
        }
        return a;
    }

    /** What LIVELY does not have yet, told behind its last TICK, and seen in one more, goes back. */
    private static void everyPartGoesBack() {
        Object[][] changes = {{"firm", 3, 1}, {"firm", 0, 0}, {"merge", 2, 2, 1}, {"merge", 0, 0, 0},
            {"bend", 0, 0, 1}, {"bend", 1, 1, NONE}, {"limit", 1, 0}, {"limit", 0, 1000000}, {"line", 3, 9},
            {"line", 0, 0}, {"pull", 1}, {"plug", 2}, {"unpatch", 0}, {"patch", 1, 1, 1}, {"member", 5, 1, 3},
            {"member", 5, 0, NONE}, {"point", 0, 40, 0}, {"point", 2, 0, 0}, {"entry", 0, 0, 0, 9, 9},
            {"list", 3, 9, 9}, {"load", 3, 0}, {"load", 0, NONE}, {"go", 0}, {"stop", 0}, {"release", 1},
            {"master", 0, 0}, {"master", NONE, 0}, {"blackout", 1}};
        Object[] tick = {"tick", 1};
        for (Object[] change : changes) {
            Rigs.Rig more = then(Rigs.LIVELY, change, tick);
            EDGES.alike("back behind " + change[0] + "() and a TICK", Rigs.LIVELY_BEHIND_3, back(more, 1));
        }
        Rigs.Rig patched = then(Rigs.FIXTURES_24, new Object[] {"patch", 23, 0, 5}, tick);
        EDGES.alike("PATCHED, and gone", Rigs.LIVELY_BEHIND_3, back(patched, 1));
        // What a CHANNEL was when it was BENT last shows in a HOLE alone.
        Rigs.Rig bent = back(then(Rigs.LIVELY, new Object[] {"bend", 0, 0, 1}, tick), 1);
        Object[][] hole = {{"bend", 0, 0, 2}, {"point", 2, 0, Rigs.NUMBERLESS}, tick};
        EDGES.alike("it was not BENT", then(Rigs.LIVELY_BEHIND_3, hole), then(bent, hole));
    }

    /** Of a call of several TICKS those behind it are out. */
    private static void backWithinACall() {
        for (int n = 1; n <= 5; n++) {
            for (int by = 0; by < n; by++) {
                CueBoard x = bytes(0, 1);
                x.tick(n);
                x.blackout(true);
                int calls = x.told(2);
                CHECK.due("back(" + by + ") of tick(" + n + ")", x.back(by), n - by);
                CHECK.due("the call stays, what came behind is out", x.told(2), calls - 1);
                CueBoard y = bytes(0, 1);
                y.tick(n - by);
                CHECK.due("THE DIGEST", x.digest(), y.digest());
                CHECK.due("PLAYED AGAIN", x.replay(), y.digest());
                CHECK.due("to the first of it", x.back(n - by - 1), 1);
                CHECK.due("no more", x.back(1), NO);
                CHECK.due("PLAYED AGAIN", x.replay(), 1);
            }
        }
        CueBoard z = new CueBoard();
        z.tick(3);
        z.tick(2);
        CHECK.due("to the end of the one before", z.back(2), 3);
        CHECK.due("one call", z.told(2), 1);
        z.tick(4);
        CHECK.due("to the first of the other", z.back(3), 4);
        CHECK.due("two calls", z.told(2), 2);
        CHECK.due("to the end of the one before", z.back(1), 3);
        CHECK.due("one call", z.told(2), 1);
    }

    /** A full BOOK has room again behind back(); a call that did not fit is out for good. */
    private static void backFromAFullBook() {
        CueBoard x = new CueBoard();
        x.line(0, 1);
        for (int i = 0; i < 119; i++) {
            x.tick(1);
        }
        CHECK.due("full", x.told(2), 120);
        CHECK.due("back", x.back(0), 119);
        CHECK.due("full still", x.told(2), 120);
        CHECK.due("back", x.back(1), 118);
        CHECK.due("room for one", x.told(2), 119);
        CHECK.due("tick", x.tick(5), 123);
        CHECK.due("full", x.told(2), 120);
        CHECK.due("back within the last", x.back(4), 119);
        CHECK.due("full still", x.told(2), 120);
        CHECK.due("one more", x.limit(0, 0), 1);
        CHECK.due("more than it has", x.told(2), 121);
        CHECK.due("no way back", x.back(0), NO);
        CHECK.due("no way back", x.back(50), NO);
        CHECK.due("nor again", x.replay(), NO);
    }

    /** 0 FIXTURES, 1 TICKS, 2 calls in THE BOOK, 3 whether there is a BLACKOUT, 4 GRAND. BAD. */
    private static void toldNumbers() {
        int[] want = {8, 3, 57, 0, 90};
        for (int what = 0; what < 5; what++) {
            EDGES.still("0 .. 4", Rigs.LIVELY, want[what], "told", what);
        }
        for (int what : new int[] {-1, 5, MIN, MAX}) {
            EDGES.still("0 .. 4", Rigs.LIVELY, BAD, "told", what);
            EDGES.still("0 .. 4", Rigs.NEW, BAD, "told", what);
        }
        CueBoard x = new CueBoard();
        CHECK.due("no BLACKOUT", x.told(3), 0);
        x.blackout(true);
        CHECK.due("a BLACKOUT", x.told(3), 1);
        x.master(NONE, 0);
        CHECK.due("GRAND", x.told(4), 0);
    }

    /** At most 512 calls: the last one is answered as the first was, whatever was called, and however often. */
    private static void theLastCallThatIsPromised() {
        CueBoard x = new CueBoard();
        for (int i = 1; i <= Run.MOST_CALLS; i++) {
            CHECK.due("tick " + i, x.tick(1), i);
        }
        for (Object[] row : ACTS) {
            Run y = new Run();
            Rigs.LIVELY.set(y);
            int acted = y.call("told", 2);
            while (y.calls() < Run.MOST_CALLS - 2) {
                acted += y.call((String) row[1], numbers(row)) >= 0 ? 1 : 0;
            }
            CHECK.due("FIXTURE 0 is there behind many " + row[1], y.call("about", 0, 0), 0);
            CHECK.due("calls in THE BOOK behind many " + row[1], y.call("told", 2), Math.min(acted, 121));
        }
        Run z = new Run();
        Rigs.LIVELY.set(z);
        int digest = z.call("digest");
        while (z.calls() < Run.MOST_CALLS) {
            CHECK.due("PLAYED AGAIN", z.call("replay"), digest);
        }
    }
}
