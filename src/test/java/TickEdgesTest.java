/** The edges of TICKS and HEAT: part 6 of the document's terms, and promises 30 to 35. */
public final class TickEdgesTest {
    private static final int BAD = CueBoard.BAD, FULL = CueBoard.FULL;
    private static final int MIN = Integer.MIN_VALUE, MAX = Integer.MAX_VALUE;
    private static final Check CHECK = new Check();
    private static final Edges EDGES = new Edges(CHECK);

    public static void main(String[] args) {
        limitNumbers();
        heatNumbers();
        aboveItsLimit();
        theGreatestByte();
        cutOneByOne();
        nothingIsCutThat();
        overWhenAllIsCut();
        heatBehindTheLatestTick();
        mostOfTheFixture();
        blackouts();
        tickNumbers();
        ticksAtMost();
        foundNumbers();
        foundCounts();
        CHECK.end();
    }

    /** LIMIT of a LINE (told or not) becomes n (0 .. 1000000): 1. BAD. */
    private static void limitNumbers() {
        for (int l = 0; l < 4; l++) {
            EDGES.between("n 0 .. 1000000", Rigs.LIVELY, 1, 1, 0, 1000000, "limit", l, 0);
            EDGES.between("n 0 .. 1000000", Rigs.NEW, 1, 1, 0, 1000000, "limit", l, 0);
        }
        EDGES.still("BAD is both", Rigs.LIVELY, BAD, "limit", 4, -1);
    }

    /** HEAT of a LINE, over: BAD; 0 before a TICK. */
    private static void heatNumbers() {
        for (int l : new int[] {-1, 4, MIN, MAX}) {
            EDGES.still("no such LINE", Rigs.LIVELY, BAD, "heat", l);
            EDGES.still("no such LINE", Rigs.LIVELY, BAD, "over", l);
        }
        CueBoard x = lit(new int[] {0}, new int[] {255});
        x.limit(0, 0);
        CHECK.due("0 before", x.heat(0), 0);
        CHECK.due("0 before", x.over(0), 0);
        x.tick(1);
        CHECK.due("cut to 12: 20 times 12 by 255 is 0", x.heat(0), 0);
        CHECK.due("not above 0", x.over(0), 0);
        CHECK.due("cut", x.at(0, 0), 12);
    }

    /** FIXTURES of these KINDS (n = 0) one behind the other on LINE 0, all CHANNELS of each at its value. */
    private static CueBoard lit(int[] kinds, int[] values) {
        int[] channels = {1, 2, 3, 3};
        int[] spans = {1, 2, 5, 3};
        CueBoard x = new CueBoard();
        x.line(0, 64);
        int p = 0;
        for (int f = 0; f < kinds.length; f++) {
            x.fixture(kinds[f], 0);
            x.patch(f, 0, p);
            p += spans[kinds[f]];
            for (int c = 0; c < channels[kinds[f]]; c++) {
                x.entry(f, f, c, values[f], 0);
            }
            x.list(0, f, 0);
        }
        x.load(0, 0);
        for (int f = 0; f < kinds.length; f++) {
            x.go(0);
        }
        return x;
    }

    /** A MOVER with n on LINE 0, its LEVEL at 255. */
    private static CueBoard mover(int n) {
        CueBoard x = new CueBoard();
        x.line(0, 5);
        x.fixture(2, n);
        x.patch(0, 0, 0);
        x.entry(0, 0, 2, 255, 0);
        x.list(0, 0, 0);
        x.load(0, 0);
        x.go(0);
        return x;
    }

    /** If they are together above its LIMIT: just as much is not above it. */
    private static void aboveItsLimit() {
        // Two DIMMERS: 20 and 10 (20 times 128 by 255).
        for (int limit = 28; limit <= 32; limit++) {
            CueBoard x = lit(new int[] {0, 0}, new int[] {255, 128});
            x.limit(0, limit);
            x.tick(1);
            CHECK.due("HEAT at LIMIT " + limit, x.heat(0), Math.min(limit, 30));
            // Less than 10: 20 times 127 by 255 is 9; less than 9: 20 times 114 by 255 is 8.
            int second = limit >= 30 ? 128 : limit == 29 ? 127 : 114;
            CHECK.bytes("at LIMIT " + limit, x, 0, 255, second, 0);
            CHECK.due("over", x.over(0), 0);
        }
        CueBoard none = lit(new int[] {0}, new int[] {12});
        none.limit(0, 0);
        none.tick(1);
        CHECK.due("20 times 12 by 255 is 0, not above 0", none.at(0, 0), 12);
        CueBoard one = lit(new int[] {0}, new int[] {13});
        one.limit(0, 0);
        one.tick(1);
        CHECK.due("20 times 13 by 255 is 1, above 0", one.at(0, 0), 12);
    }

    /** The byte becomes the greatest one not above what it is with which they are not. */
    private static void theGreatestByte() {
        int[] heats = {20, 20, 100};
        int[] levelAt = {0, 0, 4};
        for (int kind = 0; kind < heats.length; kind++) {
            for (int limit = 0; limit <= heats[kind]; limit++) {
                CueBoard x = lit(new int[] {kind}, new int[] {255});
                x.limit(0, limit);
                x.tick(1);
                int want = 255;
                while (heats[kind] * want / 255 > limit) {
                    want--;
                }
                CHECK.due("KIND " + kind + " at LIMIT " + limit, x.at(0, levelAt[kind]), want);
                CHECK.due("HEAT", x.heat(0), heats[kind] * want / 255);
                CHECK.due("over", x.over(0), 0);
            }
        }
        for (int n = 0; n <= 45; n++) {
            for (int limit : new int[] {0, 1, 60, 99 + n, 100 + n}) {
                CueBoard x = mover(n);
                x.limit(0, limit);
                x.tick(1);
                int want = 255;
                while ((100 + n) * want / 255 > limit) {
                    want--;
                }
                CHECK.due("a MOVER with " + n + " at LIMIT " + limit, x.at(0, 4), want);
            }
        }
        CueBoard s = lit(new int[] {3}, new int[] {255});
        s.limit(0, 179);
        s.tick(1);
        CHECK.bytes("BLUE first", s, 0, 255, 255, 254);
        s.limit(0, 120);
        s.tick(1);
        CHECK.bytes("BLUE to what gives 0", s, 0, 255, 255, 4);
        s.limit(0, 119);
        s.tick(1);
        CHECK.bytes("BLUE to 0, then GREEN", s, 0, 255, 254, 0);
        s.limit(0, 0);
        s.tick(1);
        CHECK.bytes("RED to what gives 0", s, 0, 4, 0, 0);
        CHECK.due("HEAT", s.heat(0), 0);
    }

    /** Of FIXTURES that are not FIRM, the latest PATCHED first, till they are not above it. */
    private static void cutOneByOne() {
        CueBoard x = lit(new int[] {0, 0, 0}, new int[] {255, 255, 255});
        x.limit(0, 40);
        x.tick(1);
        CHECK.bytes("the last alone, to what gives 0", x, 0, 255, 255, 12);
        x.limit(0, 39);
        x.tick(1);
        CHECK.bytes("the last to 0, then the one before it", x, 0, 255, 254, 0);
        x.limit(0, 19);
        x.tick(1);
        CHECK.bytes("two to 0, then the first", x, 0, 254, 0, 0);
        x.firm(2, true);
        x.limit(0, 40);
        x.tick(1);
        CHECK.bytes("a FIRM one is passed over", x, 0, 255, 12, 255);
        x.patch(0, 0, 0);
        x.tick(1);
        CHECK.bytes("PATCHED anew it is the latest", x, 0, 12, 255, 255);
        x.firm(0, true);
        x.firm(1, true);
        x.limit(0, 59);
        x.tick(1);
        CHECK.bytes("all are FIRM", x, 0, 255, 255, 255);
        CHECK.due("over", x.over(0), 1);
        x.limit(0, 60);
        x.tick(1);
        CHECK.due("not above it", x.over(0), 0);
    }

    /** CHANNELS of DIMMING that are WHOLE there: no other is cut, nor one of another LINE. */
    private static void nothingIsCutThat() {
        CueBoard x = lit(new int[] {1, 2}, new int[] {200, 200});
        x.line(1, 1);
        x.fixture(0, 0);
        x.patch(2, 1, 0);
        x.entry(5, 2, 0, 255, 0);
        x.list(1, 5, 0);
        x.load(1, 1);
        x.go(1);
        x.limit(0, 0);
        x.tick(1);
        CHECK.bytes("RATE, PAN and TILT stay", x, 0, 12, 200, 0, 200, 0, 200, 0);
        CHECK.bytes("another LINE stays", x, 1, 255);
        CHECK.due("HEAT", x.heat(1), 20);
        // The LEVEL of the MOVER is not WHOLE on 6 places: it has no HEAT, so the STROBE may be cut less.
        x.line(0, 6);
        x.limit(0, 15);
        x.tick(1);
        CHECK.bytes("the STROBE alone: 20 times 200 by 255 is 15", x, 0, 200, 200, 0, 200, 0, 200);
        CHECK.due("HEAT", x.heat(0), 15);
        x.line(0, 7);
        x.tick(1);
        CHECK.bytes("with the MOVER: 15 and 78, cut to 15 and 0", x, 0, 200, 200, 0, 200, 0, 200, 2);
        CHECK.due("HEAT", x.heat(0), 15);
    }

    /** Whether HEAT was above its LIMIT, all that could be cut being cut: 1, 0. */
    private static void overWhenAllIsCut() {
        CueBoard x = lit(new int[] {0, 0}, new int[] {255, 255});
        x.firm(0, true);
        x.limit(0, 19);
        x.tick(1);
        CHECK.bytes("the other one is 0", x, 0, 255, 0);
        CHECK.due("HEAT", x.heat(0), 20);
        CHECK.due("above by 1", x.over(0), 1);
        x.limit(0, 20);
        CHECK.due("not before a TICK", x.over(0), 1);
        x.tick(1);
        CHECK.bytes("the other one is what gives 0", x, 0, 255, 12);
        CHECK.due("just as much", x.over(0), 0);
    }

    /** HEAT of a LINE behind the latest TICK: what was done since does not matter. */
    private static void heatBehindTheLatestTick() {
        CueBoard x = lit(new int[] {0}, new int[] {255});
        x.tick(1);
        CHECK.due("HEAT", x.heat(0), 20);
        x.unpatch(0);
        CHECK.due("not before a TICK", x.heat(0), 20);
        x.tick(1);
        CHECK.due("none is PATCHED", x.heat(0), 0);
        x.patch(0, 1, 0);
        x.tick(1);
        CHECK.due("never told", x.heat(1), 0);
        x.line(1, 1);
        x.tick(1);
        CHECK.due("told", x.heat(1), 20);
        x.pull(1);
        x.tick(1);
        CHECK.due("PULLED", x.heat(1), 20);
        x.limit(1, 5);
        x.tick(1);
        CHECK.due("PULLED ones are cut, too", x.heat(1), 5);
        CHECK.due("elsewhere", x.heat(0), 0);
    }

    /** DIMMING ones are at most MOST of the FIXTURE. */
    private static void mostOfTheFixture() {
        int[] ns = {0, 45, 46, 100};
        int[] most = {255, 255, 254, 200};
        for (int kind = 0; kind < 4; kind++) {
            for (int i = 0; i < ns.length; i++) {
                for (int value : new int[] {0, 199, 200, 201, 253, 254, 255}) {
                    CueBoard x = new CueBoard();
                    x.line(0, 5);
                    x.fixture(kind, ns[i]);
                    x.patch(0, 0, 0);
                    x.entry(0, 0, kind == 2 ? 2 : 0, value, 0);
                    x.list(0, 0, 0);
                    x.load(0, 0);
                    x.go(0);
                    x.tick(1);
                    int want = kind < 2 ? value : Math.min(value, most[i]);
                    CHECK.due("KIND " + kind + ", n " + ns[i], x.at(0, kind == 2 ? 4 : 0), want);
                    CHECK.due("its VALUE stays", x.value(0, 0, kind == 2 ? 2 : 0), value);
                }
            }
        }
    }

    /** A BLACKOUT begins, or ends: what it was (1, 0). In one all DIMMING ones are 0 then. */
    private static void blackouts() {
        EDGES.taken("none was", Rigs.LIVELY, 0, "blackout", 0);
        EDGES.taken("none was", Rigs.LIVELY, 0, "blackout", 1);
        Rigs.Rig dark = x -> {
            Rigs.LIVELY.set(x);
            x.call("blackout", 1);
        };
        EDGES.taken("one was", dark, 1, "blackout", 0);
        EDGES.taken("one was", dark, 1, "blackout", 1);
        CueBoard x = lit(new int[] {0, 1, 2, 3}, new int[] {255, 255, 255, 255});
        x.blackout(true);
        x.limit(0, 20 + 20 + 100 + 179);
        x.tick(1);
        CHECK.bytes("DIMMING ones alone", x, 0, 0, 0, 255, 0, 255, 0, 255, 0, 0, 0, 0);
        CHECK.due("HEAT as cut before it", x.heat(0), 319);
        CHECK.due("over", x.over(0), 0);
        x.blackout(false);
        x.tick(1);
        CHECK.bytes("it ended", x, 0, 255, 255, 255, 0, 255, 0, 255, 255, 255, 255, 254);
    }

    /** n (1 .. 5) TICKS: how many went ever. BAD. */
    private static void tickNumbers() {
        for (int n : new int[] {0, -1, 6, MIN, MAX}) {
            EDGES.still("n 1 .. 5", Rigs.NEW, BAD, "tick", n);
            EDGES.still("n 1 .. 5", Rigs.LIVELY, BAD, "tick", n);
        }
        for (int n = 1; n <= 5; n++) {
            EDGES.taken("n 1 .. 5", Rigs.NEW, n, "tick", n);
            EDGES.taken("n 1 .. 5", Rigs.LIVELY, 3 + n, "tick", n);
            CueBoard several = lit(new int[] {0}, new int[] {7});
            CueBoard one = lit(new int[] {0}, new int[] {7});
            several.tick(n);
            for (int i = 0; i < n; i++) {
                one.tick(1);
            }
            CHECK.due("as many by one", several.digest(), one.digest());
            CHECK.due("as many by one", several.told(1), one.told(1));
            CHECK.due("as many ACTS", several.playback(3, 4), n);
        }
    }

    /** FULL: above 2000. */
    private static void ticksAtMost() {
        for (int n = 1; n <= 4; n++) {
            EDGES.taken("2000 at most", Rigs.TICKS_1996, 1996 + n, "tick", n);
        }
        EDGES.still("2001", Rigs.TICKS_1996, FULL, "tick", 5);
        EDGES.still("BAD ahead of FULL", Rigs.TICKS_1996, BAD, "tick", 6);
        for (int n = 1; n <= 5; n++) {
            EDGES.still("more than 2000", Rigs.TICKS_2000, FULL, "tick", n);
        }
        EDGES.still("BAD ahead of FULL", Rigs.TICKS_2000, BAD, "tick", 0);
        EDGES.still("BAD ahead of FULL", Rigs.TICKS_2000, BAD, "tick", 6);
        EDGES.still("2000 went", Rigs.TICKS_2000, 2000, "told", 1);
        for (int p = 0; p < 4; p++) {
            // Two of them had a go(), too.
            int acts = p < 2 ? 2001 : 2000;
            EDGES.still("ACTS of all", Rigs.TICKS_2000, acts, "playback", p, 4);
            EDGES.still("ACTS of all", Rigs.TICKS_2000, acts, "playback", p, 5);
        }
    }

    /** FOUND of a FINDING (1 .. 6). BAD. */
    private static void foundNumbers() {
        // In each of 3 TICKS: a SCREEN on a PULLED LINE, a DIMMER on one never told, a LEVEL beyond; at(3, 0); two
        // MEMBERS in go(1); line(0, -1).
        int[] want = {13, 3, 2, 0, 1, 0};
        for (int finding = 1; finding <= 6; finding++) {
            EDGES.still("1 .. 6", Rigs.LIVELY, want[finding - 1], "found", finding);
        }
        for (int finding : new int[] {0, 7, -1, -11, -16, MIN, MAX}) {
            EDGES.still("1 .. 6", Rigs.LIVELY, BAD, "found", finding);
        }
    }

    /** FOUND counts all FINDINGS by their kind, also those of TICKS and of go(); nothing that is refused. */
    private static void foundCounts() {
        CueBoard x = new CueBoard();
        x.fixture(3, 0);
        x.group(1, 1);
        x.at(0, 0);
        CHECK.found("NOTHING", x, 1, 0, 0, 0, 0, 0);
        x.line(0, 1);
        x.wide(0, 0);
        CHECK.found("BEYOND", x, 1, 1, 0, 0, 0, 0);
        x.patch(1, 0, 0);
        CHECK.found("SORT", x, 1, 1, 1, 0, 0, 0);
        x.asks(0, 2);
        CHECK.found("NOUGHT", x, 1, 1, 1, 1, 0, 0);
        x.group(0, -1);
        CHECK.found("FEWER", x, 1, 1, 1, 1, 1, 0);
        x.member(1, 0, 0);
        CHECK.found("STORE", x, 1, 1, 1, 1, 1, 1);
        x.at(4, 0);
        x.plug(0);
        x.tick(6);
        x.memberAt(1, 5);
        x.trace(9);
        x.found(0);
        x.back(0);
        CHECK.found("what is refused, or none", x, 1, 1, 1, 1, 1, 1);
        x.patch(0, 0, 0);
        x.tick(2);
        CHECK.found("BEYOND of two TICKS, two CHANNELS each", x, 1, 5, 1, 1, 1, 1);
        x.pull(0);
        x.tick(1);
        CHECK.found("NOTHING of a TICK, three CHANNELS", x, 4, 5, 1, 1, 1, 1);
        x.member(1, 0, -1);
        x.fixture(0, 0);
        x.entry(0, 2, 1, 0, 0);
        x.list(0, 0, 1);
        x.list(0, 0, 0);
        x.load(0, 0);
        x.go(0);
        CHECK.found("SORT of go()", x, 4, 5, 2, 1, 1, 1);
        x.tick(1);
        CHECK.found("SORT of a CUE that FOLLOWS", x, 7, 5, 3, 1, 1, 1);
    }
}
