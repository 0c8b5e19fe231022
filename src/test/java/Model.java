import java.util.ArrayList;
import java.util.LinkedHashMap;
import java.util.List;
import java.util.Map;

/** A plain second reading of the document, slow and with all of Java, to compare CueBoard with. */
final class Model {
    /** A FINDING, on its way to the call that answers it. */
    static final class Finding extends RuntimeException {
        private static final long serialVersionUID = 1L;
        final int kind;

        Finding(int kind) {
            super(null, null, false, false);
            this.kind = kind;
        }
    }

    /** A refusal: BAD, NO or FULL. */
    static final class Refusal extends RuntimeException {
        private static final long serialVersionUID = 1L;
        final int answer;

        Refusal(int answer) {
            super(null, null, false, false);
            this.answer = answer;
        }
    }

    static final int NOTHING = 1, BEYOND = 2, SORT = 3, NOUGHT = 4, FEWER = 5, STORE = 6;

    static final List<String> ACTS = List.of("line", "pull", "plug", "fixture", "group", "member", "patch", "unpatch",
            "firm", "point", "bend", "entry", "list", "load", "go", "stop", "release", "master", "merge", "limit",
            "blackout", "tick");

    static final class Call {
        final String name;
        final int[] a;

        Call(String name, int... a) {
            this.name = name;
            this.a = a;
        }
    }

    // ---- FIXTURES, with their BODIES as real ones

    static final class Channel {
        final boolean wide, dimming;
        int curve = -1, bentLast = 0, level = 0;
        boolean byLatest = false;

        Channel(boolean wide, boolean dimming) {
            this.wide = wide;
            this.dimming = dimming;
        }
    }

    abstract static class Fixture {
        final State state;
        final int kind, n;
        final List<Channel> channels = new ArrayList<>();
        int line = -1, place = -1;
        boolean firm = false;

        Fixture(State state, int kind, int n) {
            this.state = state;
            this.kind = kind;
            this.n = n;
        }

        void leave(int body) {
            if (state.tracing) {
                state.trace.add(body);
            }
        }

        int number() {
            return n;
        }

        abstract int span();
    }

    interface Shows {
        int span();

        void leave(int body);

        default int heat() {
            leave(10);
            return 20 * span();
        }

        default int most() {
            leave(30);
            return 255;
        }
    }

    interface Moves {
        int number();

        void leave(int body);

        default int reach() {
            leave(20);
            return 360;
        }

        default int most() {
            leave(31);
            return 300 - number();
        }
    }

    static class Dimmer extends Fixture implements Shows {
        Dimmer(State state, int kind, int n) {
            super(state, kind, n);
            channels.add(new Channel(false, true));
        }

        @Override public void leave(int body) {
            super.leave(body);
        }

        @Override public int span() {
            leave(1);
            return 1;
        }
    }

    static final class Strobe extends Dimmer {
        Strobe(State state, int n) {
            super(state, 1, n);
            channels.add(new Channel(false, false));
        }

        @Override public int span() {
            leave(2);
            return super.span() + 1;
        }

        @Override public int heat() {
            leave(11);
            return super.heat() / 2;
        }
    }

    static final class Mover extends Fixture implements Shows, Moves {
        Mover(State state, int n) {
            super(state, 2, n);
            channels.add(new Channel(true, false));
            channels.add(new Channel(true, false));
            channels.add(new Channel(false, true));
        }

        @Override public void leave(int body) {
            super.leave(body);
        }

        @Override public int number() {
            return n;
        }

        @Override public int span() {
            leave(3);
            return 5;
        }

        @Override public int heat() {
            leave(12);
            return Shows.super.heat() + n;
        }

        @Override public int most() {
            leave(32);
            return Math.min(Shows.super.most(), Moves.super.most());
        }
    }

    static final class Screen extends Fixture implements Shows, Moves {
        Screen(State state, int n) {
            super(state, 3, n);
            for (int c = 0; c < 3; c++) {
                channels.add(new Channel(false, true));
            }
        }

        @Override public void leave(int body) {
            super.leave(body);
        }

        @Override public int number() {
            return n;
        }

        @Override public int span() {
            leave(4);
            return 3;
        }

        @Override public int reach() {
            leave(21);
            int whole = Moves.super.reach();
            if (n == 0) {
                throw new Finding(NOUGHT);
            }
            return whole / n;
        }

        @Override public int most() {
            leave(33);
            return Math.min(Shows.super.most(), Moves.super.most());
        }
    }

    static final class Group extends Fixture {
        final Fixture[] places;

        Group(State state, int form, int k) {
            super(state, 4, form);
            places = new Fixture[k];
        }

        @Override int span() {
            leave(5);
            int sum = 0;
            for (Fixture f : places) {
                sum += f == null ? 0 : f.span();
            }
            return sum;
        }

        boolean takes(Fixture f) {
            return n == 0 || (n == 1 ? f instanceof Dimmer : f instanceof Moves);
        }

        List<Fixture> members() {
            List<Fixture> all = new ArrayList<>();
            for (Fixture f : places) {
                if (f instanceof Group) {
                    all.addAll(((Group) f).members());
                } else if (f != null) {
                    all.add(f);
                }
            }
            return all;
        }
    }

    static final class Line {
        int[] bytes = null;
        boolean plugged = false;
        int limit = 1000000, heat = 0;
        boolean over = false;
    }

    static final class Fade {
        int from, to, ticks, gone, value, began;

        boolean goes() {
            return gone < ticks;
        }
    }

    static final class Playback {
        int list = -1, place = -1, master = 100, entered = 0, left = 0, sinceBegan = 0;
        boolean follows = false;
        final Map<Channel, Fade> fades = new LinkedHashMap<>();

        int going() {
            int n = 0;
            for (Fade fade : fades.values()) {
                n += fade.goes() ? 1 : 0;
            }
            return n;
        }
    }

    // ---- all but THE BOOK

    static final class State {
        final Line[] lines = new Line[4];
        final List<Fixture> fixtures = new ArrayList<>();
        final List<Fixture> patched = new ArrayList<>();
        final List<List<int[]>> curves = new ArrayList<>(), cues = new ArrayList<>(), lists = new ArrayList<>();
        final Playback[] playbacks = new Playback[4];
        final int[] found = new int[7];
        final List<Integer> trace = new ArrayList<>();
        boolean tracing = true, blackout = false;
        int grand = 100, ticks = 0, digest = 0, began = 0;

        State() {
            for (int i = 0; i < 4; i++) {
                lines[i] = new Line();
                playbacks[i] = new Playback();
                curves.add(new ArrayList<>());
                lists.add(new ArrayList<>());
            }
            for (int i = 0; i < 16; i++) {
                cues.add(new ArrayList<>());
            }
        }

        int answer(Call call) {
            try {
                return dispatch(call.name, call.a);
            } catch (Refusal refusal) {
                return refusal.answer;
            } catch (Finding finding) {
                found[finding.kind]++;
                return -10 - finding.kind;
            }
        }

        private static void bad(boolean when) {
            refuse(when, CueBoard.BAD);
        }

        private static void no(boolean when) {
            refuse(when, CueBoard.NO);
        }

        private static void full(boolean when) {
            refuse(when, CueBoard.FULL);
        }

        private static void refuse(boolean when, int answer) {
            if (when) {
                throw new Refusal(answer);
            }
        }

        private static void find(boolean when, int kind) {
            if (when) {
                throw new Finding(kind);
            }
        }

        private static void range(int i, int from, int to) {
            bad(i < from || i > to);
        }

        private Fixture fixture(int f) {
            range(f, 0, fixtures.size() - 1);
            return fixtures.get(f);
        }

        private Playback playback(int p) {
            range(p, 0, 3);
            return playbacks[p];
        }

        private Line line(int l) {
            range(l, 0, 3);
            return lines[l];
        }

        private int dispatch(String name, int[] a) {
            switch (name) {
                case "line": return tell(line(a[0]), a[1]);
                case "pull": return pull(line(a[0]));
                case "plug": return plug(line(a[0]));
                case "at": return at(line(a[0]), a[1]);
                case "wide": return wide(line(a[0]), a[1]);
                case "fixture": return make(a[0], a[1]);
                case "group": return group(a[0], a[1]);
                case "member": return member(a[0], a[1], a[2]);
                case "memberAt": return memberAt(fixture(a[0]), a[1]);
                case "asks": return ask(fixture(a[0]), a[1]);
                case "trace": return a[0] >= 0 && a[0] < trace.size() ? trace.get(a[0]) : -1;
                case "about": return about(fixture(a[0]), a[1]);
                case "patch": return patch(fixture(a[0]), a[1], a[2]);
                case "unpatch": return unpatch(fixture(a[0]));
                case "firm": return firm(fixture(a[0]), a[1] == 1);
                case "point": return point(a[0], a[1], a[2]);
                case "curve": return curve(a[0], a[1]);
                case "bend": return bend(fixture(a[0]), a[1], a[2]);
                case "entry": return entry(a);
                case "list": return list(a[0], a[1], a[2]);
                case "load": return load(playback(a[0]), a[1]);
                case "go": return go(playback(a[0]));
                case "stop": return stop(playback(a[0]));
                case "release": return release(playback(a[0]));
                case "master": return master(a[0], a[1]);
                case "merge": return merge(fixture(a[0]), a[1], a[2] == 1);
                case "value": return value(playback(a[0]), fixture(a[1]), a[2]);
                case "playback": return about(playback(a[0]), a[1]);
                case "limit": return limit(line(a[0]), a[1]);
                case "heat": return line(a[0]).heat;
                case "over": return line(a[0]).over ? 1 : 0;
                case "blackout": return blackout(a[0] == 1);
                case "tick": return tick(a[0]);
                case "found": range(a[0], 1, 6); return found[a[0]];
                case "digest": return digest;
                default: throw new IllegalStateException(name);
            }
        }

        private int tell(Line line, int n) {
            bad(n > 64);
            find(n < 0, FEWER);
            line.bytes = new int[n];
            line.plugged = true;
            return 1;
        }

        private int pull(Line line) {
            no(!line.plugged);
            line.plugged = false;
            return 1;
        }

        private int plug(Line line) {
            no(line.plugged || line.bytes == null);
            line.plugged = true;
            line.bytes = new int[line.bytes.length];
            return 1;
        }

        private int at(Line line, int p) {
            find(!line.plugged, NOTHING);
            find(p < 0 || p >= line.bytes.length, BEYOND);
            return line.bytes[p];
        }

        private int wide(Line line, int p) {
            int high = at(line, p);
            return high * 256 + at(line, p + 1);
        }

        private int make(int kind, int n) {
            range(kind, 0, 3);
            range(n, 0, 100);
            full(fixtures.size() == 24);
            switch (kind) {
                case 0: fixtures.add(new Dimmer(this, 0, n)); break;
                case 1: fixtures.add(new Strobe(this, n)); break;
                case 2: fixtures.add(new Mover(this, n)); break;
                default: fixtures.add(new Screen(this, n)); break;
            }
            return fixtures.size() - 1;
        }

        private int group(int form, int k) {
            range(form, 0, 2);
            bad(k > 6);
            full(fixtures.size() == 24 || fixtures.stream().filter(f -> f instanceof Group).count() == 3);
            find(k < 0, FEWER);
            fixtures.add(new Group(this, form, k));
            return fixtures.size() - 1;
        }

        private int member(int g, int i, int f) {
            Fixture to = fixture(g);
            Fixture it = f == -1 ? null : fixture(f);
            bad(f >= g);
            find(!(to instanceof Group), SORT);
            Group group = (Group) to;
            find(i < 0 || i >= group.places.length, BEYOND);
            find(it != null && !group.takes(it), STORE);
            group.places[i] = it;
            return 1;
        }

        private int memberAt(Fixture g, int k) {
            find(!(g instanceof Group), SORT);
            List<Fixture> members = ((Group) g).members();
            return k >= 0 && k < members.size() ? fixtures.indexOf(members.get(k)) : -1;
        }

        private int ask(Fixture f, int ask) {
            range(ask, 0, 3);
            trace.clear();
            if (ask == 0) {
                return f.span();
            }
            find(!(ask == 2 ? f instanceof Moves : f instanceof Shows), SORT);
            if (ask == 2) {
                return ((Moves) f).reach();
            }
            return ask == 1 ? ((Shows) f).heat() : ((Shows) f).most();
        }

        private int about(Fixture f, int what) {
            range(what, 0, 4);
            return new int[] {f.kind, f.n, f.line, f.place, f.firm ? 1 : 0}[what];
        }

        private int patch(Fixture f, int l, int p) {
            line(l);
            range(p, 0, 63);
            find(!(f instanceof Shows), SORT);
            patched.remove(f);
            patched.add(f);
            f.line = l;
            f.place = p;
            return 1;
        }

        private int unpatch(Fixture f) {
            no(!patched.remove(f));
            f.line = -1;
            f.place = -1;
            return 1;
        }

        private int firm(Fixture f, boolean on) {
            f.firm = on;
            return 1;
        }

        private int point(int curve, int x, int bits) {
            range(curve, 0, 3);
            range(x, 0, 255);
            List<int[]> points = curves.get(curve);
            bad(!points.isEmpty() && x <= points.get(points.size() - 1)[0]);
            bad(Float.isInfinite(Float.intBitsToFloat(bits)));
            full(points.size() == 8);
            points.add(new int[] {x, bits});
            return points.size();
        }

        private int curve(int curve, int v) {
            boolean asTold = curve >= 0 && curve <= 3 && v >= 0 && v <= 255;
            return asTold ? Float.floatToIntBits(height(curve, v)) : 0;
        }

        /** NaN in a HOLE. */
        private float height(int curve, int v) {
            List<int[]> points = curves.get(curve);
            if (points.isEmpty()) {
                return v;
            }
            if (v <= points.get(0)[0]) {
                return Float.intBitsToFloat(points.get(0)[1]);
            }
            for (int i = 1; i < points.size(); i++) {
                int x0 = points.get(i - 1)[0];
                int x1 = points.get(i)[0];
                float y0 = Float.intBitsToFloat(points.get(i - 1)[1]);
                float y1 = Float.intBitsToFloat(points.get(i)[1]);
                if (v == x1) {
                    return y1;
                }
                if (v < x1) {
                    return y0 + (y1 - y0) * ((float) (v - x0) / (float) (x1 - x0));
                }
            }
            return Float.intBitsToFloat(points.get(points.size() - 1)[1]);
        }

        private static Channel channel(Fixture f, int c) {
            return c < f.channels.size() ? f.channels.get(c) : null;
        }

        private int bend(Fixture f, int c, int curve) {
            range(c, 0, 2);
            range(curve, -1, 3);
            Channel channel = channel(f, c);
            find(channel == null || channel.wide, SORT);
            channel.curve = curve;
            return 1;
        }

        private int entry(int[] a) {
            range(a[0], 0, 15);
            fixture(a[1]);
            range(a[2], 0, 2);
            range(a[3], 0, 65535);
            range(a[4], 0, 100);
            List<int[]> entries = cues.get(a[0]);
            full(entries.size() == 12);
            entries.add(a.clone());
            return entries.size();
        }

        private int list(int list, int cue, int follow) {
            range(list, 0, 3);
            range(cue, 0, 15);
            range(follow, 0, 50);
            full(lists.get(list).size() == 8);
            lists.get(list).add(new int[] {cue, follow});
            return lists.get(list).size();
        }

        private int load(Playback playback, int list) {
            range(list, -1, 3);
            playback.list = list;
            playback.place = -1;
            return 1;
        }

        private boolean isNextThere(Playback playback) {
            return playback.list >= 0 && playback.place + 1 < lists.get(playback.list).size();
        }

        private int go(Playback playback) {
            no(!isNextThere(playback));
            playback.entered++;
            int cue = begin(playback);
            playback.left++;
            return cue;
        }

        private int begin(Playback playback) {
            playback.place++;
            playback.sinceBegan = 0;
            playback.follows = true;
            int cue = lists.get(playback.list).get(playback.place)[0];
            for (int[] entry : cues.get(cue)) {
                Fixture to = fixtures.get(entry[1]);
                for (Fixture f : to instanceof Group ? ((Group) to).members() : List.of(to)) {
                    Channel channel = channel(f, entry[2]);
                    if (channel == null) {
                        found[SORT]++;
                    } else {
                        fade(playback, channel, entry[3], entry[4]);
                    }
                }
            }
            return cue;
        }

        private void fade(Playback playback, Channel channel, int value, int t) {
            Fade old = playback.fades.get(channel);
            Fade fade = new Fade();
            fade.from = old == null ? 0 : old.value;
            fade.to = channel.wide ? value : Math.min(value, 255);
            fade.ticks = t;
            fade.value = t == 0 ? fade.to : fade.from;
            fade.began = began++;
            playback.fades.put(channel, fade);
        }

        private int stop(Playback playback) {
            int went = playback.going();
            for (Fade fade : playback.fades.values()) {
                fade.gone = fade.ticks;
            }
            playback.follows = false;
            return went;
        }

        private int release(Playback playback) {
            int had = playback.fades.size();
            playback.fades.clear();
            playback.place = -1;
            return had;
        }

        private int master(int p, int m) {
            range(p, -1, 3);
            range(m, 0, 100);
            int before = p == -1 ? grand : playbacks[p].master;
            if (p == -1) {
                grand = m;
            } else {
                playbacks[p].master = m;
            }
            return before;
        }

        private int merge(Fixture f, int c, boolean latest) {
            range(c, 0, 2);
            Channel channel = channel(f, c);
            find(channel == null, SORT);
            channel.byLatest = latest;
            return 1;
        }

        private int value(Playback playback, Fixture f, int c) {
            range(c, 0, 2);
            Channel channel = channel(f, c);
            find(channel == null, SORT);
            Fade fade = playback.fades.get(channel);
            return fade == null ? -1 : fade.value;
        }

        private int about(Playback p, int what) {
            range(what, 0, 6);
            return new int[] {p.list, p.place, p.master, p.going(), p.entered, p.left, p.fades.size()}[what];
        }

        private int limit(Line line, int n) {
            range(n, 0, 1000000);
            line.limit = n;
            return 1;
        }

        private int blackout(boolean on) {
            int before = blackout ? 1 : 0;
            blackout = on;
            return before;
        }

        private int tick(int n) {
            range(n, 1, 5);
            full(ticks + n > 2000);
            tracing = false;
            for (int i = 0; i < n; i++) {
                ticks++;
                act(0);
                for (Fixture f : patched) {
                    for (Channel channel : f.channels) {
                        channel.level = level(f, channel);
                    }
                }
                for (int l = 0; l < 4; l++) {
                    cut(l);
                }
                write();
            }
            tracing = true;
            return ticks;
        }

        /** The ACT of a PLAYBACK, those of the later ones in it. */
        private void act(int p) {
            if (p == 4) {
                return;
            }
            Playback playback = playbacks[p];
            playback.entered++;
            for (Fade fade : playback.fades.values()) {
                if (fade.goes()) {
                    fade.gone++;
                    double exact = fade.from + (fade.to - fade.from) * fade.gone / (double) fade.ticks;
                    fade.value = (int) Math.floor(exact + 0.5);
                }
            }
            playback.sinceBegan++;
            if (playback.place >= 0 && playback.follows) {
                int follow = lists.get(playback.list).get(playback.place)[1];
                if (follow != 0 && playback.sinceBegan == follow) {
                    playback.follows = false;
                    if (isNextThere(playback)) {
                        begin(playback);
                    }
                }
            }
            act(p + 1);
            playback.left++;
        }

        private int level(Fixture f, Channel channel) {
            int greatest = 0;
            int ofLatest = 0;
            int latest = -1;
            for (Playback playback : playbacks) {
                Fade fade = playback.fades.get(channel);
                if (fade != null) {
                    int v = channel.dimming ? fade.value * playback.master / 100 : fade.value;
                    greatest = Math.max(greatest, v);
                    if (fade.began > latest) {
                        latest = fade.began;
                        ofLatest = v;
                    }
                }
            }
            int v = channel.byLatest ? ofLatest : greatest;
            if (channel.dimming) {
                v = v * grand / 100;
            }
            if (channel.curve != -1) {
                float y = height(channel.curve, v);
                if (!Float.isNaN(y)) {
                    channel.bentLast = Math.max(0, Math.min(255, (int) (y + 0.5f)));
                }
                v = channel.bentLast;
            }
            return channel.dimming ? Math.min(v, ((Shows) f).most()) : v;
        }

        private int placeOf(Fixture f, Channel channel) {
            int place = f.place;
            for (Channel before : f.channels) {
                if (before == channel) {
                    return place;
                }
                place += before.wide ? 2 : 1;
            }
            throw new IllegalStateException();
        }

        private boolean isWhole(Fixture f, Channel channel) {
            int[] bytes = lines[f.line].bytes;
            return bytes != null && placeOf(f, channel) + (channel.wide ? 2 : 1) <= bytes.length;
        }

        private int heatOf(int l) {
            int sum = 0;
            for (Fixture f : patched) {
                for (Channel channel : f.channels) {
                    if (f.line == l && channel.dimming && isWhole(f, channel)) {
                        sum += ((Shows) f).heat() * channel.level / 255;
                    }
                }
            }
            return sum;
        }

        private void cut(int l) {
            Line line = lines[l];
            for (int i = patched.size() - 1; i >= 0; i--) {
                Fixture f = patched.get(i);
                for (int c = f.channels.size() - 1; c >= 0; c--) {
                    Channel channel = f.channels.get(c);
                    boolean mayBe = f.line == l && !f.firm && channel.dimming && isWhole(f, channel);
                    while (mayBe && channel.level > 0 && heatOf(l) > line.limit) {
                        channel.level--;
                    }
                }
            }
            line.heat = heatOf(l);
            line.over = line.heat > line.limit;
        }

        private void write() {
            for (Line line : lines) {
                if (line.plugged) {
                    line.bytes = new int[line.bytes.length];
                }
            }
            for (Fixture f : patched) {
                for (Channel channel : f.channels) {
                    int v = blackout && channel.dimming ? 0 : channel.level;
                    int p = placeOf(f, channel);
                    if (!lines[f.line].plugged) {
                        found[NOTHING]++;
                    } else if (!isWhole(f, channel)) {
                        found[BEYOND]++;
                    } else if (channel.wide) {
                        lines[f.line].bytes[p] = v >> 8;
                        lines[f.line].bytes[p + 1] = v & 255;
                    } else {
                        lines[f.line].bytes[p] = v;
                    }
                }
            }
            for (Line line : lines) {
                for (int i = 0; line.plugged && i < line.bytes.length; i++) {
                    digest = 31 * digest + line.bytes[i];
                }
            }
        }
    }

    // ---- THE BOOK

    private State state = new State();
    private List<Call> book = new ArrayList<>();
    private boolean more = false;

    int answer(Call call) {
        switch (call.name) {
            case "replay": return more ? CueBoard.NO : played(book).digest;
            case "back": return back(call.a[0]);
            case "told": return told(call.a[0]);
            default: break;
        }
        int answer = state.answer(call);
        if (answer >= 0 && ACTS.contains(call.name)) {
            if (book.size() == 120) {
                more = true;
            } else {
                book.add(call);
            }
        }
        return answer;
    }

    private static State played(List<Call> book) {
        State fresh = new State();
        for (Call call : book) {
            fresh.answer(call);
        }
        return fresh;
    }

    private int back(int n) {
        if (n < 0 || n > 50) {
            return CueBoard.BAD;
        }
        if (more || state.ticks < n + 1) {
            return CueBoard.NO;
        }
        int left = state.ticks - n;
        List<Call> kept = new ArrayList<>();
        for (int i = 0; left > 0; i++) {
            Call call = book.get(i);
            if (call.name.equals("tick")) {
                int some = Math.min(left, call.a[0]);
                left -= some;
                call = new Call("tick", some);
            }
            kept.add(call);
        }
        book = kept;
        state = played(book);
        return state.ticks;
    }

    private int told(int what) {
        if (what < 0 || what > 4) {
            return CueBoard.BAD;
        }
        return new int[] {state.fixtures.size(), state.ticks, more ? 121 : book.size(), state.blackout ? 1 : 0,
            state.grand}[what];
    }
}
