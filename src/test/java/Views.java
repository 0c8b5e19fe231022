import java.util.ArrayList;
import java.util.Arrays;
import java.util.List;

/**
 * Rows of calls that show how a board is: some ask, some let it go on. Each begins with the board as it was, and asks
 * of one kind alone or goes on in one way, so that a call in it hides nothing from those behind it.
 */
final class Views {
    private static final int LINES = 4, PLAYBACKS = 4, FIXTURES = 24, CHANNELS = 3;
    // Those of LIVELY that SHOW.
    private static final int[] SHOWING = {0, 1, 2, 3, 4, 7};

    private final List<Model.Call> calls = new ArrayList<>();

    private Views() {
    }

    /** All rows, each of so many calls at most: what asks is cut in pieces, what is too long else is left out. */
    static List<List<Model.Call>> within(int room) {
        List<List<Model.Call>> all = asking(room);
        for (Views view : new Views[] {countEntries(), countCues(), countPoints(), countFixtures(), masters(),
            goesOn(), stops(), lights(), lightsAll(true), lightsAll(false), turnsBack()}) {
            if (view.calls.size() <= room) {
                all.add(view.calls);
            }
        }
        return all;
    }

    /** The rows that ask alone, in pieces of so many calls at most. */
    static List<List<Model.Call>> asking(int room) {
        List<List<Model.Call>> all = new ArrayList<>();
        for (Views view : new Views[] {tellings(), traces(), playbacks(), heats(), bytes(), fixtures(), members(),
            values(), curves()}) {
            for (int i = 0; i < view.calls.size(); i += room) {
                all.add(view.calls.subList(i, Math.min(i + room, view.calls.size())));
            }
        }
        return all;
    }

    private Views call(String name, int... a) {
        calls.add(new Model.Call(name, a));
        return this;
    }

    /** A call for each value of its last number. */
    private Views each(int from, int to, String name, int... a) {
        for (int i = from; i <= to; i++) {
            int[] b = Arrays.copyOf(a, a.length + 1);
            b[a.length] = i;
            call(name, b);
        }
        return this;
    }

    // ---- what asks

    private static Views tellings() {
        return new Views().each(1, 6, "found").each(0, 4, "told").call("digest").call("replay").each(1, 6, "found");
    }

    private static Views traces() {
        return new Views().each(0, 20, "trace");
    }

    private static Views playbacks() {
        Views view = new Views();
        for (int p = 0; p < PLAYBACKS; p++) {
            view.each(0, 6, "playback", p);
        }
        return view;
    }

    private static Views heats() {
        return new Views().each(0, LINES - 1, "heat").each(0, LINES - 1, "over");
    }

    private static Views bytes() {
        Views view = new Views();
        for (int l = 0; l < LINES; l++) {
            view.each(0, 63, "at", l);
        }
        return view;
    }

    private static Views fixtures() {
        Views view = new Views();
        for (int f = 0; f < FIXTURES; f++) {
            view.each(0, 4, "about", f);
        }
        return view;
    }

    private static Views members() {
        Views view = new Views();
        for (int f = 0; f < FIXTURES; f++) {
            view.each(0, 3, "memberAt", f).call("asks", f, 0);
        }
        return view.each(1, 6, "found");
    }

    private static Views values() {
        Views view = new Views();
        for (int p = 0; p < PLAYBACKS; p++) {
            for (int f = 0; f < FIXTURES; f++) {
                view.each(0, 2, "value", p, f);
            }
        }
        return view;
    }

    private static Views curves() {
        Views view = new Views();
        for (int curve = 0; curve < 4; curve++) {
            for (int v : new int[] {0, 1, 6, 10, 15, 20, 25, 30, 31, 200, 202, 255}) {
                view.call("curve", curve, v);
            }
        }
        return view;
    }

    // ---- what goes on

    private static Views countEntries() {
        Views view = new Views();
        for (int cue = 0; cue < 16; cue++) {
            view.call("entry", cue, 0, 0, 1, 1);
        }
        return view.call("told", 2);
    }

    private static Views countCues() {
        Views view = new Views();
        for (int list = 0; list < 4; list++) {
            view.call("list", list, 15, 1);
        }
        return view.call("told", 2);
    }

    private static Views countPoints() {
        Views view = new Views();
        for (int curve = 0; curve < 4; curve++) {
            view.call("point", curve, 250, 0);
        }
        return view.call("told", 2);
    }

    private static Views countFixtures() {
        return new Views().call("group", 0, 1).call("group", 0, 1).call("fixture", 0, 0).call("told", 2);
    }

    private static Views masters() {
        Views view = new Views();
        for (int p = -1; p < PLAYBACKS; p++) {
            view.call("master", p, 50);
        }
        return view.call("blackout", 1).call("told", 2);
    }

    private Views tick(int n) {
        return call("tick", n).call("digest");
    }

    private Views endOfIt() {
        return each(0, LINES - 1, "heat").each(1, 6, "found").each(0, 2, "told");
    }

    private static Views goesOn() {
        Views view = new Views().tick(1).tick(1).tick(1).each(0, PLAYBACKS - 1, "go").tick(1).tick(3);
        for (int p = 0; p < PLAYBACKS; p++) {
            view.call("playback", p, 1).call("playback", p, 3).call("playback", p, 6);
        }
        return view.endOfIt();
    }

    private static Views stops() {
        Views view = new Views().each(0, PLAYBACKS - 1, "stop").tick(2).each(0, PLAYBACKS - 1, "release").tick(1);
        for (int p = 0; p < PLAYBACKS; p++) {
            view.call("load", p, p).call("go", p);
        }
        view.tick(4);
        for (int l = 0; l < LINES; l++) {
            view.call("pull", l).call("plug", l);
        }
        return view.tick(1).endOfIt();
    }

    private static Views lights() {
        Views view = new Views().call("blackout", 0);
        for (int l = 0; l < LINES; l++) {
            view.call("line", l, 64);
        }
        view.tick(1);
        for (int f : SHOWING) {
            view.call("entry", 14, f, f % CHANNELS, 222, 0).call("patch", f, f % LINES, 2 * f);
        }
        view.call("list", 2, 14, 0).call("load", 3, 2).call("go", 3).call("go", 3);
        return view.tick(2).call("release", 0).tick(1).endOfIt();
    }

    /** All CHANNELS at 250 in PLAYBACK 2, then at 30 in 3, each FIXTURE for itself; LIMITS as they are, or none. */
    private static Views lightsAll(boolean limited) {
        Views view = new Views().each(0, PLAYBACKS - 1, "release").call("blackout", 0);
        for (int l = 0; l < LINES; l++) {
            view.call("line", l, 64);
            if (!limited) {
                view.call("limit", l, 1000000);
            }
        }
        for (int f : SHOWING) {
            view.call("patch", f, f % LINES, 8 * f);
            for (int c = 0; c < CHANNELS; c++) {
                view.call("entry", f < 4 ? 10 : 11, f, c, 250, 0).call("entry", f < 4 ? 12 : 13, f, c, 30, 0);
            }
        }
        // LISTS 1 and 2 of LIVELY have 2 CUES and 1 before these.
        view.call("list", 1, 10, 0).call("list", 1, 11, 0).call("load", 2, 1);
        view.call("go", 2).call("go", 2).call("go", 2).call("go", 2).tick(1);
        view.call("list", 2, 12, 0).call("list", 2, 13, 0).call("load", 3, 2);
        view.call("go", 3).call("go", 3).call("go", 3).tick(1);
        return view.each(0, LINES - 1, "heat").each(0, LINES - 1, "over");
    }

    private static Views turnsBack() {
        Views view = new Views();
        for (int n = 0; n < 3; n++) {
            view.call("back", n).call("digest").each(1, 6, "found").each(0, 4, "told").call("trace", 0);
        }
        return view.call("replay");
    }
}
