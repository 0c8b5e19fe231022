import java.util.Arrays;

/**
 * A board for stage lights, tick by tick, as the document CueBoard tells it.
 * The face keeps THE BOOK; all else stands in a Board, so that THE BOOK can be played on another one.
 */
public final class CueBoard {
    public static final int NONE = -1, BAD = -2, NO = -3, FULL = -4;

    // FINDINGS as they are answered: -10 less their number.
    private static final int NOTHING = -11, BEYOND = -12, SORT = -13, NOUGHT = -14, FEWER = -15, STORE = -16;
    private static final int FINDINGS = 6;

    private static final int LINES = 4, PLACES = 64, MOST_LIMIT = 1000000;
    private static final int FIXTURES = 24, CHANNELS = 3, CELLS = 72, MOST_NUMBER = 100;
    private static final int GROUPS = 3, GROUP_PLACES = 6, MOST_MEMBERS = 216;
    private static final int CURVES = 4, POINTS = 8, HOLE = 0x7FC00000;
    private static final int CUES = 16, ENTRIES = 12, LISTS = 4, LIST_CUES = 8, PLAYBACKS = 4;
    private static final int MOST_BYTE = 255, MOST_WIDE = 65535, MOST_FADE = 100, MOST_FOLLOW = 50, WHOLE_MASTER = 100;
    private static final int MOST_TICKS = 2000, TICKS_A_CALL = 5, MOST_BACK = 50, BOOK_CALLS = 120;

    private static final int DIMMER = 0, STROBE = 1, MOVER = 2, SCREEN = 3, GROUP = 4;
    private static final int FORM_ALL = 0, FORM_DIMMERS = 1, FORM_MOVING = 2;
    private static final int ASK_SPAN = 0, ASK_HEAT = 1, ASK_REACH = 2, ASK_MOST = 3;

    // The calls that act, as THE BOOK names them.
    private static final int LINE = 0, PULL = 1, PLUG = 2, FIXTURE = 3, MAKE_GROUP = 4, MEMBER = 5, PATCH = 6,
            UNPATCH = 7, FIRM = 8, POINT = 9, BEND = 10, ENTRY = 11, LIST = 12, LOAD = 13, GO = 14, STOP = 15,
            RELEASE = 16, MASTER = 17, MERGE = 18, LIMIT = 19, BLACKOUT = 20, TICK = 21;

    private final Board board;
    private final Book book;
    // The board of its own for replay(); null till it is wanted, then used again.
    private Board other;

    public CueBoard() {
        board = new Board();
        book = new Book();
        other = null;
    }

    // ---- 1 lines

    public int line(int l, int n) {
        return act(LINE, l, n, 0, 0, 0);
    }

    public int pull(int l) {
        return act(PULL, l, 0, 0, 0, 0);
    }

    public int plug(int l) {
        return act(PLUG, l, 0, 0, 0, 0);
    }

    public int at(int l, int p) {
        return board.counted(board.lines.byteAt(l, p));
    }

    public int wide(int l, int p) {
        return board.counted(board.lines.wideAt(l, p));
    }

    // ---- 2 fixtures

    public int fixture(int kind, int n) {
        return act(FIXTURE, kind, n, 0, 0, 0);
    }

    public int group(int form, int k) {
        return act(MAKE_GROUP, form, k, 0, 0, 0);
    }

    public int member(int g, int i, int f) {
        return act(MEMBER, g, i, f, 0, 0);
    }

    public int memberAt(int g, int k) {
        return board.counted(board.fixtures.memberOf(g, k));
    }

    public int asks(int f, int ask) {
        return board.counted(board.asks.answerTo(board.fixtures, f, ask));
    }

    public int trace(int i) {
        return board.asks.leftAt(i);
    }

    public int about(int f, int what) {
        return board.tellFixture(f, what);
    }

    // ---- 3 patching

    public int patch(int f, int l, int p) {
        return act(PATCH, f, l, p, 0, 0);
    }

    public int unpatch(int f) {
        return act(UNPATCH, f, 0, 0, 0, 0);
    }

    public int firm(int f, boolean on) {
        return act(FIRM, f, on ? 1 : 0, 0, 0, 0);
    }

    // ---- 4 curves

    public int point(int curve, int x, int bits) {
        return act(POINT, curve, x, bits, 0, 0);
    }

    public int curve(int curve, int v) {
        return board.curves.bitsAt(curve, v);
    }

    public int bend(int f, int c, int curve) {
        return act(BEND, f, c, curve, 0, 0);
    }

    // ---- 5 cues, lists, playbacks

    public int entry(int cue, int f, int c, int value, int ticks) {
        return act(ENTRY, cue, f, c, value, ticks);
    }

    public int list(int list, int cue, int follow) {
        return act(LIST, list, cue, follow, 0, 0);
    }

    public int load(int p, int list) {
        return act(LOAD, p, list, 0, 0, 0);
    }

    public int go(int p) {
        return act(GO, p, 0, 0, 0, 0);
    }

    public int stop(int p) {
        return act(STOP, p, 0, 0, 0, 0);
    }

    public int release(int p) {
        return act(RELEASE, p, 0, 0, 0, 0);
    }

    public int master(int p, int m) {
        return act(MASTER, p, m, 0, 0, 0);
    }

    public int merge(int f, int c, boolean latest) {
        return act(MERGE, f, c, latest ? 1 : 0, 0, 0);
    }

    public int value(int p, int f, int c) {
        return board.counted(board.valueOf(p, f, c));
    }

    public int playback(int p, int what) {
        return board.tellPlayback(p, what);
    }

    // ---- 6 ticks

    public int limit(int l, int n) {
        return act(LIMIT, l, n, 0, 0, 0);
    }

    public int heat(int l) {
        return isIn(l, LINES) ? board.lines.heat[l] : BAD;
    }

    public int over(int l) {
        return isIn(l, LINES) ? board.lines.over[l] : BAD;
    }

    public int blackout(boolean on) {
        return act(BLACKOUT, on ? 1 : 0, 0, 0, 0, 0);
    }

    public int tick(int n) {
        return act(TICK, n, 0, 0, 0, 0);
    }

    public int found(int finding) {
        return isIn(finding - 1, FINDINGS) ? board.found[finding] : BAD;
    }

    // ---- 7 the book

    public int digest() {
        return board.digest;
    }

    public int replay() {
        if (book.overran) {
            return NO;
        }
        if (other == null) {
            other = new Board();
        }
        playAgainOn(other);
        return other.digest;
    }

    public int back(int n) {
        if (!isUpTo(n, MOST_BACK)) {
            return BAD;
        }
        if (book.overran || board.ticks <= n) {
            return NO;
        }
        book.endBehind(board.ticks - n);
        playAgainOn(board);
        return board.ticks;
    }

    public int told(int what) {
        switch (what) {
            case 0: return board.fixtures.count;
            case 1: return board.ticks;
            case 2: return book.overran ? BOOK_CALLS + 1 : book.count;
            case 3: return board.blackout;
            case 4: return board.grand;
            default: return BAD;
        }
    }

    private int act(int call, int a, int b, int c, int d, int e) {
        int answer = board.counted(board.perform(call, a, b, c, d, e));
        if (answer >= 0) {
            book.note(call, a, b, c, d, e);
        }
        return answer;
    }

    private void playAgainOn(Board stage) {
        stage.clear();
        int[] rows = book.rows;
        for (int i = 0; i < book.count; i++) {
            int r = i * Book.ROW;
            stage.perform(rows[r], rows[r + 1], rows[r + 2], rows[r + 3], rows[r + 4], rows[r + 5]);
        }
    }

    private static boolean isIn(int i, int n) {
        return i >= 0 && i < n;
    }

    private static boolean isUpTo(int i, int most) {
        return i >= 0 && i <= most;
    }

    /** THE BOOK: the first calls that acted, a row for each: the call, and what it was given. */
    private static final class Book {
        static final int ROW = 6;

        final int[] rows = new int[BOOK_CALLS * ROW];
        int count = 0;
        boolean overran = false;

        void note(int call, int a, int b, int c, int d, int e) {
            if (count >= BOOK_CALLS) {
                overran = true;
                return;
            }
            int r = count * ROW;
            rows[r] = call;
            rows[r + 1] = a;
            rows[r + 2] = b;
            rows[r + 3] = c;
            rows[r + 4] = d;
            rows[r + 5] = e;
            count++;
        }

        /** Takes out what came behind a TICK, also the later TICKS of the call that it was in. */
        void endBehind(int tick) {
            int gone = 0;
            for (int i = 0; i < count; i++) {
                int r = i * ROW;
                if (rows[r] != TICK) {
                    continue;
                }
                if (gone + rows[r + 1] >= tick) {
                    rows[r + 1] = tick - gone;
                    count = i + 1;
                    return;
                }
                gone += rows[r + 1];
            }
        }
    }

    /** All that is on the board but for THE BOOK, and what a TICK does with it. */
    private static final class Board {
        final Lines lines = new Lines();
        final Fixtures fixtures = new Fixtures();
        final Asks asks = new Asks();
        final Patching patching = new Patching();
        final Curves curves = new Curves();
        final Bends bends = new Bends();
        final Cues cues = new Cues();
        final Playback[] playbacks = new Playback[PLAYBACKS];
        final int[] found = new int[FINDINGS + 1];
        // What goes to each CHANNEL in the TICK at hand.
        final int[] levels = new int[CELLS];
        int ticks, fades, grand, blackout, digest;

        Board() {
            for (int p = 0; p < PLAYBACKS; p++) {
                playbacks[p] = new Playback();
            }
            clear();
        }

        /** As new. Rows that are counted, and what is written before it is read, may keep what was in them. */
        void clear() {
            lines.clear();
            fixtures.clear();
            asks.clear();
            patching.clear();
            curves.clear();
            bends.clear();
            cues.clear();
            for (int p = 0; p < PLAYBACKS; p++) {
                playbacks[p].clear();
            }
            Arrays.fill(found, 0);
            ticks = 0;
            fades = 0;
            grand = WHOLE_MASTER;
            blackout = 0;
            digest = 0;
        }

        /** Counts an answer that is a FINDING, and gives it on. */
        int counted(int answer) {
            if (answer <= NOTHING && answer >= STORE) {
                found[-10 - answer]++;
            }
            return answer;
        }

        int perform(int call, int a, int b, int c, int d, int e) {
            switch (call) {
                case LINE: return lines.tell(a, b);
                case PULL: return lines.unplug(a);
                case PLUG: return lines.plugIn(a);
                case FIXTURE: return fixtures.add(a, b);
                case MAKE_GROUP: return fixtures.addGroup(a, b);
                case MEMBER: return fixtures.putMember(a, b, c);
                case PATCH: return patching.put(fixtures, a, b, c);
                case UNPATCH: return patching.take(fixtures, a);
                case FIRM: return patching.makeFirm(fixtures, a, b);
                case POINT: return curves.addPoint(a, b, c);
                case BEND: return bends.setCurve(fixtures, a, b, c);
                case ENTRY: return cues.addEntry(fixtures, a, b, c, d, e);
                case LIST: return cues.addCue(a, b, c);
                case LOAD: return loadList(a, b);
                case GO: return startNext(a);
                case STOP: return isIn(a, PLAYBACKS) ? playbacks[a].halt() : BAD;
                case RELEASE: return isIn(a, PLAYBACKS) ? playbacks[a].letGo() : BAD;
                case MASTER: return setMaster(a, b);
                case MERGE: return bends.setLatest(fixtures, a, b, c);
                case LIMIT: return lines.setLimit(a, b);
                case BLACKOUT: return setBlackout(a);
                case TICK: return runTicks(a);
                default: return BAD;
            }
        }

        int tellFixture(int f, int what) {
            if (!fixtures.has(f)) {
                return BAD;
            }
            switch (what) {
                case 0: return fixtures.kind[f];
                case 1: return fixtures.number[f];
                case 2: return patching.line[f];
                case 3: return patching.place[f];
                case 4: return patching.firm[f];
                default: return BAD;
            }
        }

        int loadList(int p, int list) {
            if (!isIn(p, PLAYBACKS) || list != NONE && !isIn(list, LISTS)) {
                return BAD;
            }
            playbacks[p].list = list;
            playbacks[p].place = NONE;
            return 1;
        }

        int startNext(int p) {
            if (!isIn(p, PLAYBACKS)) {
                return BAD;
            }
            if (!hasNext(playbacks[p])) {
                return NO;
            }
            playbacks[p].acts++;
            return begin(playbacks[p]);
        }

        boolean hasNext(Playback playback) {
            return playback.list != NONE && playback.place + 1 < cues.length[playback.list];
        }

        /** The next CUE begins; the caller has seen that it is there. */
        int begin(Playback playback) {
            playback.place++;
            playback.began = ticks;
            playback.follows = true;
            int cue = cues.cueAt(playback.list, playback.place);
            for (int i = 0; i < cues.entries[cue]; i++) {
                int r = cues.rowOf(cue, i);
                int c = cues.rows[r + 1];
                fixtures.gathered = 0;
                fixtures.gather(cues.rows[r], 0);
                for (int m = 0; m < fixtures.gathered; m++) {
                    int f = fixtures.members[m];
                    if (fixtures.hasChannel(f, c)) {
                        fades++;
                        int most = fixtures.isWide(f, c) ? MOST_WIDE : MOST_BYTE;
                        int goal = Math.min(cues.rows[r + 2], most);
                        playback.startFade(f * CHANNELS + c, goal, cues.rows[r + 3], fades);
                    } else {
                        counted(SORT);
                    }
                }
            }
            return cue;
        }

        int setMaster(int p, int m) {
            if (p != NONE && !isIn(p, PLAYBACKS) || !isUpTo(m, WHOLE_MASTER)) {
                return BAD;
            }
            int before;
            if (p == NONE) {
                before = grand;
                grand = m;
            } else {
                before = playbacks[p].master;
                playbacks[p].master = m;
            }
            return before;
        }

        int valueOf(int p, int f, int c) {
            if (!isIn(p, PLAYBACKS) || !fixtures.has(f) || !isIn(c, CHANNELS)) {
                return BAD;
            }
            if (!fixtures.hasChannel(f, c)) {
                return SORT;
            }
            int cell = f * CHANNELS + c;
            return playbacks[p].stamp[cell] == 0 ? NONE : playbacks[p].value[cell];
        }

        int tellPlayback(int p, int what) {
            if (!isIn(p, PLAYBACKS)) {
                return BAD;
            }
            Playback playback = playbacks[p];
            switch (what) {
                case 0: return playback.list;
                case 1: return playback.place;
                case 2: return playback.master;
                case 3: return playback.going;
                // No call comes within an ACT, so what was entered has always been left.
                case 4: return playback.acts;
                case 5: return playback.acts;
                case 6: return playback.held;
                default: return BAD;
            }
        }

        int setBlackout(int on) {
            int before = blackout;
            blackout = on;
            return before;
        }

        int runTicks(int n) {
            if (n < 1 || n > TICKS_A_CALL) {
                return BAD;
            }
            if (ticks + n > MOST_TICKS) {
                return FULL;
            }
            for (int i = 0; i < n; i++) {
                ticks++;
                runPlaybacks();
                mix();
                reckonHeat();
                write();
                digest = lines.digestBehind(digest);
            }
            return ticks;
        }

        void runPlaybacks() {
            for (int p = 0; p < PLAYBACKS; p++) {
                Playback playback = playbacks[p];
                playback.acts++;
                playback.fadeOn();
                if (isFollowDue(playback)) {
                    begin(playback);
                }
            }
        }

        /** Whether the next CUE FOLLOWS: due in one TICK alone, so if it is not there then, it never does. */
        boolean isFollowDue(Playback playback) {
            if (!playback.follows || playback.place < 0 || !hasNext(playback)) {
                return false;
            }
            int follow = cues.followAt(playback.list, playback.place);
            return follow > 0 && ticks - playback.began == follow;
        }

        void mix() {
            for (int i = 0; i < patching.count; i++) {
                int f = patching.order[i];
                int n = fixtures.channelsOf(f);
                for (int c = 0; c < n; c++) {
                    int cell = f * CHANNELS + c;
                    boolean dims = fixtures.isDimming(f, c);
                    int level = merged(cell, dims);
                    if (dims) {
                        level = level * grand / 100;
                    }
                    if (bends.curve[cell] != NONE) {
                        level = curves.bent(bends.curve[cell], level, bends.last[cell]);
                        bends.last[cell] = level;
                    }
                    levels[cell] = dims ? Math.min(level, fixtures.mostOf(f)) : level;
                }
            }
        }

        int merged(int cell, boolean dims) {
            boolean byLatest = bends.latest[cell] == 1;
            int best = 0;
            int latest = 0;
            for (int p = 0; p < PLAYBACKS; p++) {
                Playback playback = playbacks[p];
                int stamp = playback.stamp[cell];
                int level = playback.value[cell];
                if (stamp == 0) {
                    continue;
                }
                if (dims) {
                    level = level * playback.master / 100;
                }
                if (byLatest ? stamp > latest : level > best) {
                    best = level;
                    latest = stamp;
                }
            }
            return best;
        }

        void reckonHeat() {
            Arrays.fill(lines.heat, 0);
            for (int i = 0; i < patching.count; i++) {
                int f = patching.order[i];
                for (int c = 0; c < fixtures.channelsOf(f); c++) {
                    if (isHeating(f, c)) {
                        lines.heat[patching.line[f]] += heatFrom(f, c);
                    }
                }
            }
            for (int l = 0; l < LINES; l++) {
                if (lines.heat[l] > lines.limit[l]) {
                    cutByHeat(l);
                }
                lines.over[l] = lines.heat[l] > lines.limit[l] ? 1 : 0;
            }
        }

        /** Whether a CHANNEL of a PATCHED FIXTURE is of DIMMING, and WHOLE on its LINE. */
        boolean isHeating(int f, int c) {
            int p = patching.place[f] + fixtures.offsetOf(f, c);
            return fixtures.isDimming(f, c) && p < lines.size[patching.line[f]];
        }

        int heatFrom(int f, int c) {
            return fixtures.heatOf(f) * levels[f * CHANNELS + c] / MOST_BYTE;
        }

        void cutByHeat(int l) {
            int limit = lines.limit[l];
            int sum = lines.heat[l];
            for (int i = patching.count - 1; i >= 0 && sum > limit; i--) {
                int f = patching.order[i];
                if (patching.line[f] != l || patching.firm[f] == 1) {
                    continue;
                }
                for (int c = fixtures.channelsOf(f) - 1; c >= 0 && sum > limit; c--) {
                    if (isHeating(f, c)) {
                        int cell = f * CHANNELS + c;
                        sum -= heatFrom(f, c);
                        levels[cell] = Math.min(levels[cell], mostWithin(limit - sum, fixtures.heatOf(f)));
                        sum += heatFrom(f, c);
                    }
                }
            }
            lines.heat[l] = sum;
        }

        /** The greatest number that, times heat, by 255, cut, is not above room; 0 where none is. */
        static int mostWithin(int room, int heat) {
            if (room < 0 || heat <= 0) {
                return 0;
            }
            return ((room + 1) * MOST_BYTE - 1) / heat;
        }

        void write() {
            lines.darkenPlugged();
            for (int i = 0; i < patching.count; i++) {
                int f = patching.order[i];
                for (int c = 0; c < fixtures.channelsOf(f); c++) {
                    boolean dark = blackout == 1 && fixtures.isDimming(f, c);
                    int level = dark ? 0 : levels[f * CHANNELS + c];
                    int p = patching.place[f] + fixtures.offsetOf(f, c);
                    counted(lines.put(patching.line[f], p, level, fixtures.isWide(f, c)));
                }
            }
        }
    }

    /** The LINES: their bytes, their LIMITS, and the HEAT of the latest TICK. */
    private static final class Lines {
        // How many places; NONE: never told.
        final int[] size = new int[LINES];
        final int[] plugged = new int[LINES];
        final int[] limit = new int[LINES];
        final int[] heat = new int[LINES];
        final int[] over = new int[LINES];
        final int[] bytes = new int[LINES * PLACES];

        void clear() {
            Arrays.fill(size, NONE);
            Arrays.fill(plugged, 0);
            Arrays.fill(limit, MOST_LIMIT);
            Arrays.fill(heat, 0);
            Arrays.fill(over, 0);
        }

        int tell(int l, int n) {
            if (!isIn(l, LINES) || n > PLACES) {
                return BAD;
            }
            if (n < 0) {
                return FEWER;
            }
            size[l] = n;
            plugged[l] = 1;
            darken(l);
            return 1;
        }

        int unplug(int l) {
            if (!isIn(l, LINES)) {
                return BAD;
            }
            if (plugged[l] == 0) {
                return NO;
            }
            plugged[l] = 0;
            return 1;
        }

        int plugIn(int l) {
            if (!isIn(l, LINES)) {
                return BAD;
            }
            if (plugged[l] == 1 || size[l] == NONE) {
                return NO;
            }
            plugged[l] = 1;
            darken(l);
            return 1;
        }

        int setLimit(int l, int n) {
            if (!isIn(l, LINES) || !isUpTo(n, MOST_LIMIT)) {
                return BAD;
            }
            limit[l] = n;
            return 1;
        }

        int byteAt(int l, int p) {
            if (!isIn(l, LINES)) {
                return BAD;
            }
            if (plugged[l] == 0) {
                return NOTHING;
            }
            return isIn(p, size[l]) ? bytes[l * PLACES + p] : BEYOND;
        }

        int wideAt(int l, int p) {
            if (!isIn(l, LINES)) {
                return BAD;
            }
            if (plugged[l] == 0) {
                return NOTHING;
            }
            if (!isIn(p, size[l] - 1)) {
                return BEYOND;
            }
            return bytes[l * PLACES + p] * 256 + bytes[l * PLACES + p + 1];
        }

        /** Writes what goes to a CHANNEL: 1, or what it finds. */
        int put(int l, int p, int level, boolean wide) {
            if (!isIn(l, LINES) || plugged[l] == 0) {
                return NOTHING;
            }
            int last = wide ? p + 1 : p;
            if (p < 0 || last >= size[l]) {
                return BEYOND;
            }
            if (wide) {
                bytes[l * PLACES + p] = level / 256;
            }
            bytes[l * PLACES + last] = level % 256;
            return 1;
        }

        void darken(int l) {
            for (int p = 0; p < size[l]; p++) {
                bytes[l * PLACES + p] = 0;
            }
        }

        void darkenPlugged() {
            for (int l = 0; l < LINES; l++) {
                if (plugged[l] == 1) {
                    darken(l);
                }
            }
        }

        int digestBehind(int before) {
            int digest = before;
            for (int l = 0; l < LINES; l++) {
                if (plugged[l] == 0) {
                    continue;
                }
                for (int p = 0; p < size[l]; p++) {
                    digest = 31 * digest + bytes[l * PLACES + p];
                }
            }
            return digest;
        }
    }

    /** The FIXTURES by their KINDS, and the places of GROUPS. */
    private static final class Fixtures {
        // By KINDS.
        static final int[] CHANNELS_OF = {1, 2, 3, 3, 0};
        static final int[] SPAN_OF = {1, 2, 5, 3, 0};
        // By KINDS and CHANNELS.
        static final int[] OFFSET_OF = {0, 0, 0, 0, 1, 0, 0, 2, 4, 0, 1, 2, 0, 0, 0};
        static final int[] WIDE = {0, 0, 0, 0, 0, 0, 1, 1, 0, 0, 0, 0, 0, 0, 0};
        static final int[] DIMMING = {1, 0, 0, 1, 0, 0, 0, 0, 1, 1, 1, 1, 0, 0, 0};

        final int[] kind = new int[FIXTURES];
        // n, or the FORM of a GROUP.
        final int[] number = new int[FIXTURES];
        final int[] places = new int[FIXTURES];
        final int[] slots = new int[FIXTURES * GROUP_PLACES];
        final int[] members = new int[MOST_MEMBERS];
        int count, groups, gathered;

        void clear() {
            Arrays.fill(slots, NONE);
            count = 0;
            groups = 0;
            gathered = 0;
        }

        boolean has(int f) {
            return isIn(f, count);
        }

        boolean shows(int f) {
            return kind[f] != GROUP;
        }

        boolean moves(int f) {
            return kind[f] == MOVER || kind[f] == SCREEN;
        }

        int channelsOf(int f) {
            return CHANNELS_OF[kind[f]];
        }

        boolean hasChannel(int f, int c) {
            return isIn(c, CHANNELS_OF[kind[f]]);
        }

        boolean isWide(int f, int c) {
            return WIDE[kind[f] * CHANNELS + c] == 1;
        }

        boolean isDimming(int f, int c) {
            return DIMMING[kind[f] * CHANNELS + c] == 1;
        }

        int offsetOf(int f, int c) {
            return OFFSET_OF[kind[f] * CHANNELS + c];
        }

        int heatOf(int f) {
            int lent = 20 * SPAN_OF[kind[f]];
            if (kind[f] == STROBE) {
                return lent / 2;
            }
            return kind[f] == MOVER ? lent + number[f] : lent;
        }

        int mostOf(int f) {
            return moves(f) ? Math.min(255, 300 - number[f]) : 255;
        }

        int add(int newKind, int n) {
            if (!isUpTo(newKind, SCREEN) || !isUpTo(n, MOST_NUMBER)) {
                return BAD;
            }
            if (count >= FIXTURES) {
                return FULL;
            }
            kind[count] = newKind;
            number[count] = n;
            count++;
            return count - 1;
        }

        int addGroup(int form, int k) {
            if (!isUpTo(form, FORM_MOVING) || k > GROUP_PLACES) {
                return BAD;
            }
            if (count >= FIXTURES || groups >= GROUPS) {
                return FULL;
            }
            if (k < 0) {
                return FEWER;
            }
            kind[count] = GROUP;
            number[count] = form;
            places[count] = k;
            groups++;
            count++;
            return count - 1;
        }

        int putMember(int g, int i, int f) {
            if (!has(g) || f < NONE || f >= g) {
                return BAD;
            }
            if (kind[g] != GROUP) {
                return SORT;
            }
            if (!isIn(i, places[g])) {
                return BEYOND;
            }
            if (f != NONE && !isOfForm(f, number[g])) {
                return STORE;
            }
            slots[g * GROUP_PLACES + i] = f;
            return 1;
        }

        boolean isOfForm(int f, int form) {
            if (form == FORM_DIMMERS) {
                return kind[f] == DIMMER || kind[f] == STROBE;
            }
            return form == FORM_ALL || moves(f);
        }

        int memberOf(int g, int k) {
            if (!has(g)) {
                return BAD;
            }
            if (kind[g] != GROUP) {
                return SORT;
            }
            gathered = 0;
            gather(g, 0);
            return isIn(k, gathered) ? members[k] : NONE;
        }

        /** Rows up a FIXTURE, or the MEMBERS of a GROUP, behind what is gathered already. */
        private void gather(int f, int depth) {
            if (kind[f] != GROUP) {
                if (gathered < MOST_MEMBERS) {
                    members[gathered] = f;
                    gathered++;
                }
                return;
            }
            if (depth >= GROUPS) {
                return;
            }
            for (int i = 0; i < places[f]; i++) {
                int part = slots[f * GROUP_PLACES + i];
                if (part != NONE) {
                    gather(part, depth + 1);
                }
            }
        }
    }

    /** ASKS of FIXTURES, and THE TRACE that their BODIES leave. */
    private static final class Asks {
        static final int MOST_TRACE = 475, ROW = 4, GROUP_SPAN = 5;
        // By KINDS and ASKS: the BODIES that begin, in order; 0: none.
        static final int[] BODIES = {
            1, 0, 0, 0, 10, 1, 0, 0, 0, 0, 0, 0, 30, 0, 0, 0,
            2, 1, 0, 0, 11, 10, 2, 1, 0, 0, 0, 0, 30, 0, 0, 0,
            3, 0, 0, 0, 12, 10, 3, 0, 20, 0, 0, 0, 32, 30, 31, 0,
            4, 0, 0, 0, 10, 4, 0, 0, 21, 20, 0, 0, 33, 30, 31, 0
        };

        final int[] trace = new int[MOST_TRACE];
        int length = 0;

        void clear() {
            length = 0;
        }

        int leftAt(int i) {
            return isIn(i, length) ? trace[i] : NONE;
        }

        int answerTo(Fixtures fixtures, int f, int ask) {
            if (!fixtures.has(f) || !isUpTo(ask, ASK_MOST)) {
                return BAD;
            }
            length = 0;
            if (ask == ASK_SPAN) {
                return spanOf(fixtures, f, 0);
            }
            if (ask == ASK_REACH ? !fixtures.moves(f) : !fixtures.shows(f)) {
                return SORT;
            }
            leaveBodies(fixtures.kind[f], ask);
            if (ask == ASK_HEAT) {
                return fixtures.heatOf(f);
            }
            return ask == ASK_REACH ? reachOf(fixtures, f) : fixtures.mostOf(f);
        }

        private int spanOf(Fixtures fixtures, int f, int depth) {
            int kind = fixtures.kind[f];
            if (kind != GROUP) {
                leaveBodies(kind, ASK_SPAN);
                return Fixtures.SPAN_OF[kind];
            }
            if (depth >= GROUPS) {
                return 0;
            }
            leave(GROUP_SPAN);
            int sum = 0;
            for (int i = 0; i < fixtures.places[f]; i++) {
                int part = fixtures.slots[f * GROUP_PLACES + i];
                if (part != NONE) {
                    sum += spanOf(fixtures, part, depth + 1);
                }
            }
            return sum;
        }

        static int reachOf(Fixtures fixtures, int f) {
            if (fixtures.kind[f] != SCREEN) {
                return 360;
            }
            return fixtures.number[f] == 0 ? NOUGHT : 360 / fixtures.number[f];
        }

        void leaveBodies(int kind, int ask) {
            int from = (kind * (ASK_MOST + 1) + ask) * ROW;
            for (int i = from; i < from + ROW && BODIES[i] != 0; i++) {
                leave(BODIES[i]);
            }
        }

        void leave(int body) {
            if (length < MOST_TRACE) {
                trace[length] = body;
                length++;
            }
        }
    }

    /** Where FIXTURES are PATCHED, in what order, and which are FIRM. */
    private static final class Patching {
        final int[] line = new int[FIXTURES];
        final int[] place = new int[FIXTURES];
        final int[] firm = new int[FIXTURES];
        // Those that are PATCHED, the latest one last.
        final int[] order = new int[FIXTURES];
        int count;

        void clear() {
            Arrays.fill(line, NONE);
            Arrays.fill(place, NONE);
            Arrays.fill(firm, 0);
            count = 0;
        }

        int put(Fixtures fixtures, int f, int l, int p) {
            if (!fixtures.has(f) || !isIn(l, LINES) || !isIn(p, PLACES)) {
                return BAD;
            }
            if (!fixtures.shows(f)) {
                return SORT;
            }
            leaveOrder(f);
            line[f] = l;
            place[f] = p;
            order[count] = f;
            count++;
            return 1;
        }

        int take(Fixtures fixtures, int f) {
            if (!fixtures.has(f)) {
                return BAD;
            }
            if (line[f] == NONE) {
                return NO;
            }
            leaveOrder(f);
            line[f] = NONE;
            place[f] = NONE;
            return 1;
        }

        void leaveOrder(int f) {
            int kept = 0;
            for (int i = 0; i < count; i++) {
                if (order[i] != f) {
                    order[kept] = order[i];
                    kept++;
                }
            }
            count = kept;
        }

        int makeFirm(Fixtures fixtures, int f, int on) {
            if (!fixtures.has(f)) {
                return BAD;
            }
            firm[f] = on;
            return 1;
        }
    }

    /** The CURVES and their POINTS. A y that is no number is known by its bits alone; its float is 0. */
    private static final class Curves {
        static final int SIGN = 0x80000000, ENDLESS = 0x7F800000;
        // A float is a whole number below 2 to the 24th, times 2 to its exponent less this one.
        static final int EXPONENT_OF_WHOLE = 150, MOST_EXPONENT = 255;

        final int[] count = new int[CURVES];
        final int[] xs = new int[CURVES * POINTS];
        final int[] bits = new int[CURVES * POINTS];
        final float[] ys = new float[CURVES * POINTS];

        void clear() {
            Arrays.fill(count, 0);
        }

        int addPoint(int curve, int x, int yBits) {
            if (!isIn(curve, CURVES) || !isUpTo(x, MOST_BYTE) || (yBits & ~SIGN) == ENDLESS) {
                return BAD;
            }
            int i = curve * POINTS + count[curve];
            if (count[curve] > 0 && x <= xs[i - 1]) {
                return BAD;
            }
            if (count[curve] >= POINTS) {
                return FULL;
            }
            xs[i] = x;
            bits[i] = yBits;
            ys[i] = isNoNumber(yBits) ? 0.0f : floatOf(yBits);
            count[curve]++;
            return count[curve];
        }

        static boolean isNoNumber(int yBits) {
            return (yBits & ~SIGN) > ENDLESS;
        }

        int bitsAt(int curve, int v) {
            if (!isIn(curve, CURVES) || !isUpTo(v, MOST_BYTE)) {
                return 0;
            }
            int i = pointFor(curve, v);
            if (isHole(curve, i, v)) {
                return HOLE;
            }
            if (i == NONE) {
                return bitsOf((float) v);
            }
            if (!isBetween(curve, i, v)) {
                return bits[i];
            }
            float y = heightAt(curve, i, v);
            // Two zeros below 0 add up to one; comparisons do not tell it from 0.
            boolean zeroBelow = y == 0.0f && bits[i] == SIGN && ys[i + 1] < 0.0f;
            return zeroBelow ? SIGN : bitsOf(y);
        }

        int bent(int curve, int v, int before) {
            if (!isIn(curve, CURVES)) {
                return v;
            }
            int i = pointFor(curve, v);
            if (isHole(curve, i, v)) {
                return before;
            }
            int whole = (int) (heightAt(curve, i, v) + 0.5f);
            return Math.max(0, Math.min(whole, MOST_BYTE));
        }

        /** The last POINT that is not behind v, or the first one; NONE without POINTS. */
        int pointFor(int curve, int v) {
            if (count[curve] == 0) {
                return NONE;
            }
            int first = curve * POINTS;
            int i = first;
            for (int k = first + 1; k < first + count[curve] && xs[k] <= v; k++) {
                i = k;
            }
            return i;
        }

        /** Whether v lies behind POINT i and before the next one. */
        boolean isBetween(int curve, int i, int v) {
            return i + 1 < curve * POINTS + count[curve] && v > xs[i];
        }

        boolean isHole(int curve, int i, int v) {
            if (i == NONE) {
                return false;
            }
            return isNoNumber(bits[i]) || isBetween(curve, i, v) && isNoNumber(bits[i + 1]);
        }

        float heightAt(int curve, int i, int v) {
            if (i == NONE) {
                return (float) v;
            }
            if (!isBetween(curve, i, v)) {
                return ys[i];
            }
            float part = (float) (v - xs[i]) / (float) (xs[i + 1] - xs[i]);
            return ys[i] + (ys[i + 1] - ys[i]) * part;
        }

        /** The finite float that has these bits. */
        static float floatOf(int yBits) {
            int exponent = (yBits >>> 23) & 0xFF;
            int fraction = yBits & 0x7FFFFF;
            float y = (float) (exponent == 0 ? fraction : fraction + 0x800000);
            for (int e = Math.max(exponent, 1); e < EXPONENT_OF_WHOLE; e++) {
                y = y * 0.5f;
            }
            for (int e = exponent; e > EXPONENT_OF_WHOLE; e--) {
                y = y * 2.0f;
            }
            return (yBits & SIGN) != 0 ? y * -1.0f : y;
        }

        /** The bits of a float that is a number, also of one that is endless; of both zeros 0. */
        static int bitsOf(float y) {
            int sign = y < 0.0f ? SIGN : 0;
            float whole = y < 0.0f ? y * -1.0f : y;
            int exponent = EXPONENT_OF_WHOLE;
            while (whole >= 16777216.0f && exponent < MOST_EXPONENT) {
                whole = whole * 0.5f;
                exponent++;
            }
            if (exponent >= MOST_EXPONENT) {
                return sign | ENDLESS;
            }
            while (whole < 8388608.0f && exponent > 1) {
                whole = whole * 2.0f;
                exponent--;
            }
            // The bit of whole that every float but the smallest ones has counts as one more of the exponent.
            return sign | (((exponent - 1) << 23) + (int) whole);
        }
    }

    /** How each CHANNEL is bent and MERGED. */
    private static final class Bends {
        final int[] curve = new int[CELLS];
        final int[] latest = new int[CELLS];
        // What it was when it was BENT last.
        final int[] last = new int[CELLS];

        void clear() {
            Arrays.fill(curve, NONE);
            Arrays.fill(latest, 0);
            Arrays.fill(last, 0);
        }

        int setCurve(Fixtures fixtures, int f, int c, int to) {
            if (!fixtures.has(f) || !isIn(c, CHANNELS) || to != NONE && !isIn(to, CURVES)) {
                return BAD;
            }
            if (!fixtures.hasChannel(f, c) || fixtures.isWide(f, c)) {
                return SORT;
            }
            curve[f * CHANNELS + c] = to;
            return 1;
        }

        int setLatest(Fixtures fixtures, int f, int c, int on) {
            if (!fixtures.has(f) || !isIn(c, CHANNELS)) {
                return BAD;
            }
            if (!fixtures.hasChannel(f, c)) {
                return SORT;
            }
            latest[f * CHANNELS + c] = on;
            return 1;
        }
    }

    /** The CUES with their ENTRIES, and the LISTS of CUES. */
    private static final class Cues {
        static final int ROW = 4;

        final int[] entries = new int[CUES];
        // Of each ENTRY: the FIXTURE, the channel, the value, the ticks.
        final int[] rows = new int[CUES * ENTRIES * ROW];
        final int[] length = new int[LISTS];
        final int[] cue = new int[LISTS * LIST_CUES];
        final int[] follow = new int[LISTS * LIST_CUES];

        void clear() {
            Arrays.fill(entries, 0);
            Arrays.fill(length, 0);
        }

        int rowOf(int cueNumber, int i) {
            return (cueNumber * ENTRIES + i) * ROW;
        }

        int cueAt(int list, int place) {
            return cue[list * LIST_CUES + place];
        }

        int followAt(int list, int place) {
            return follow[list * LIST_CUES + place];
        }

        int addEntry(Fixtures fixtures, int cueNumber, int f, int c, int value, int ticks) {
            if (!isIn(cueNumber, CUES) || !fixtures.has(f) || !isIn(c, CHANNELS)
                    || !isUpTo(value, MOST_WIDE) || !isUpTo(ticks, MOST_FADE)) {
                return BAD;
            }
            if (entries[cueNumber] >= ENTRIES) {
                return FULL;
            }
            int r = rowOf(cueNumber, entries[cueNumber]);
            rows[r] = f;
            rows[r + 1] = c;
            rows[r + 2] = value;
            rows[r + 3] = ticks;
            entries[cueNumber]++;
            return entries[cueNumber];
        }

        int addCue(int list, int cueNumber, int after) {
            if (!isIn(list, LISTS) || !isIn(cueNumber, CUES) || !isUpTo(after, MOST_FOLLOW)) {
                return BAD;
            }
            if (length[list] >= LIST_CUES) {
                return FULL;
            }
            int i = list * LIST_CUES + length[list];
            cue[i] = cueNumber;
            follow[i] = after;
            length[list]++;
            return length[list];
        }
    }

    /** A PLAYBACK: its PLACE in a LIST, and the VALUES of its CHANNELS that fade. */
    private static final class Playback {
        // Which of all FADES was the CHANNEL's latest one; 0: the PLAYBACK does not have the CHANNEL.
        final int[] stamp = new int[CELLS];
        final int[] value = new int[CELLS];
        final int[] from = new int[CELLS];
        final int[] goal = new int[CELLS];
        // The ticks of its FADE, and how many of them went; 0: none goes.
        final int[] ticks = new int[CELLS];
        final int[] gone = new int[CELLS];
        int list, place, master, acts, began, going, held;
        boolean follows;

        void clear() {
            letGo();
            list = NONE;
            master = WHOLE_MASTER;
            acts = 0;
            began = 0;
            follows = false;
        }

        int halt() {
            int went = going;
            Arrays.fill(ticks, 0);
            going = 0;
            follows = false;
            return went;
        }

        int letGo() {
            int had = held;
            Arrays.fill(stamp, 0);
            Arrays.fill(value, 0);
            Arrays.fill(ticks, 0);
            going = 0;
            held = 0;
            place = NONE;
            return had;
        }

        void startFade(int cell, int to, int inTicks, int newStamp) {
            if (stamp[cell] == 0) {
                held++;
            }
            if (ticks[cell] > 0) {
                going--;
            }
            if (inTicks > 0) {
                going++;
            } else {
                value[cell] = to;
            }
            stamp[cell] = newStamp;
            from[cell] = value[cell];
            goal[cell] = to;
            ticks[cell] = inTicks;
            gone[cell] = 0;
        }

        void fadeOn() {
            for (int cell = 0; cell < CELLS && going > 0; cell++) {
                int t = ticks[cell];
                if (t <= 0) {
                    continue;
                }
                gone[cell]++;
                int twice = 2 * (goal[cell] - from[cell]) * gone[cell];
                value[cell] = from[cell] + Math.floorDiv(twice + t, 2 * t);
                if (gone[cell] >= t) {
                    ticks[cell] = 0;
                    going--;
                }
            }
        }
    }
}
