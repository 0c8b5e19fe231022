import java.util.ArrayList;
import java.util.Arrays;
import java.util.IdentityHashMap;
import java.util.List;
import java.util.Map;

/**
 * Calls at the edges of what is taken, each on a board of its own: what they answer, and that those which are refused,
 * find something, or only ask change nothing. For that a twin of the board does without the call; both are looked at,
 * and go on, alike.
 */
final class Edges {
    private static final int NOTHING = -11, STORE = -16;
    private static final String[] HOW_TWINS_GO_ON = {"counts", "goes", "stops", "lights", "turns back"};

    private final Check check;
    // What the twin answered, by views.
    private final Map<Rigs.Rig, List<List<Model.Call>>> views = new IdentityHashMap<>();
    private final Map<Rigs.Rig, List<int[]>> twins = new IdentityHashMap<>();

    Edges(Check check) {
        this.check = check;
    }

    /** A call that acts is taken: THE BOOK has it. */
    void taken(String why, Rigs.Rig rig, int due, String name, int... a) {
        Run x = new Run();
        rig.set(x);
        int inBook = x.call("told", 2);
        String call = why + ": " + Run.told(name, a);
        check.due(call, x.call(name, a), due);
        check.due(call + " is in THE BOOK", x.call("told", 2), Math.min(inBook + 1, 121));
    }

    /** A call is refused, finds something, or only asks: all is as it was (but for what it found, and THE TRACE). */
    void still(String why, Rigs.Rig rig, int due, String name, int... a) {
        String call = why + ": " + Run.told(name, a);
        List<List<Model.Call>> all = viewsOf(rig);
        for (int i = 0; i < all.size(); i++) {
            Run x = new Run();
            rig.set(x);
            check.due(call, x.call(name, a), due);
            boolean leavesTrace = name.equals("asks") && due != CueBoard.BAD;
            compare(call, x, all.get(i), twins.get(rig).get(i), foundBy(name, due), leavesTrace);
        }
    }

    /** One board is as the other is, however it came there. */
    void alike(String why, Rigs.Rig rig, Rigs.Rig other) {
        for (List<Model.Call> view : viewsWithin(Math.min(roomBehind(rig), roomBehind(other)))) {
            Run x = new Run();
            other.set(x);
            compare(why, x, view, answers(rig, view), 0, false);
        }
    }

    /** Number i of a call is taken from one to another, and BAD beyond both; the call answers the same then. */
    void between(String why, Rigs.Rig rig, int due, int i, int from, int to, String name, int... a) {
        inside(why, rig, due, i, from, name, a);
        inside(why, rig, due, i, to, name, a);
        outside(why, rig, i, from - 1, name, a);
        outside(why, rig, i, to + 1, name, a);
        outside(why, rig, i, Integer.MIN_VALUE, name, a);
        outside(why, rig, i, Integer.MAX_VALUE, name, a);
    }

    private void inside(String why, Rigs.Rig rig, int due, int i, int n, String name, int[] a) {
        if (due >= 0 && Model.ACTS.contains(name)) {
            taken(why, rig, due, name, with(a, i, n));
        } else {
            still(why, rig, due, name, with(a, i, n));
        }
    }

    private void outside(String why, Rigs.Rig rig, int i, int n, String name, int[] a) {
        still(why, rig, CueBoard.BAD, name, with(a, i, n));
    }

    private static int[] with(int[] a, int i, int n) {
        int[] b = a.clone();
        b[i] = n;
        return b;
    }

    /** Which FINDING it was; 0: none. What digest() and replay() answer is none. */
    private static int foundBy(String name, int due) {
        boolean digest = name.equals("digest") || name.equals("replay");
        return !digest && due <= NOTHING && due >= STORE ? -10 - due : 0;
    }

    private void compare(String call, Run x, List<Model.Call> view, int[] twin, int found, boolean leavesTrace) {
        int more = found;
        for (int i = 0; i < twin.length; i++) {
            Model.Call look = view.get(i);
            int got = x.call(look.name, look.a);
            int want = twin[i];
            if (look.name.equals("back") && got >= 0) {
                more = 0;
            }
            if (more != 0 && look.name.equals("found") && look.a[0] == more) {
                want++;
            }
            if (!leavesTrace || !look.name.equals("trace")) {
                check.due(got == want ? "" : "behind " + call + ", " + Run.told(look.name, look.a), got, want);
            }
        }
    }

    private List<List<Model.Call>> viewsOf(Rigs.Rig rig) {
        if (!views.containsKey(rig)) {
            // One call less, for the one that is tested.
            views.put(rig, viewsWithin(roomBehind(rig) - 1));
            twins.put(rig, new ArrayList<>());
            for (List<Model.Call> view : views.get(rig)) {
                twins.get(rig).add(answers(rig, view));
            }
        }
        return views.get(rig);
    }

    private static int roomBehind(Rigs.Rig rig) {
        Run x = new Run();
        rig.set(x);
        return Run.MOST_CALLS - x.calls();
    }

    private static List<List<Model.Call>> viewsWithin(int room) {
        List<List<Model.Call>> all = cut(lookAtAll(), room);
        for (String how : HOW_TWINS_GO_ON) {
            all.add(goOn(how));
        }
        return all;
    }

    private static int[] answers(Rigs.Rig rig, List<Model.Call> view) {
        Run x = new Run();
        rig.set(x);
        int[] answers = new int[view.size()];
        for (int i = 0; i < answers.length; i++) {
            answers[i] = x.call(view.get(i).name, view.get(i).a);
        }
        return answers;
    }

    /** In pieces, for a board answers no more calls than are promised. */
    private static List<List<Model.Call>> cut(List<Model.Call> calls, int length) {
        List<List<Model.Call>> pieces = new ArrayList<>();
        for (int i = 0; i < calls.size(); i += length) {
            pieces.add(calls.subList(i, Math.min(i + length, calls.size())));
        }
        return pieces;
    }

    private static void add(List<Model.Call> calls, String name, int... a) {
        calls.add(new Model.Call(name, a));
    }

    /** A call for each value of its last number. */
    private static void addUpTo(List<Model.Call> calls, int to, String name, int... a) {
        for (int i = 0; i <= to; i++) {
            int[] b = Arrays.copyOf(a, a.length + 1);
            b[a.length] = i;
            calls.add(new Model.Call(name, b));
        }
    }

    /** All that can be asked. */
    private static List<Model.Call> lookAtAll() {
        List<Model.Call> calls = new ArrayList<>();
        addUpTo(calls, 6, "found");
        addUpTo(calls, 9, "trace");
        addUpTo(calls, 4, "told");
        add(calls, "digest");
        add(calls, "replay");
        for (int i = 0; i < 4; i++) {
            add(calls, "heat", i);
            add(calls, "over", i);
            addUpTo(calls, 6, "playback", i);
            addUpTo(calls, 63, "at", i);
            for (int v : new int[] {0, 1, 6, 10, 15, 20, 25, 30, 255}) {
                add(calls, "curve", i, v);
            }
        }
        for (int f = 0; f < 24; f++) {
            addUpTo(calls, 4, "about", f);
            addUpTo(calls, 3, "memberAt", f);
            for (int p = 0; p < 4; p++) {
                addUpTo(calls, 2, "value", p, f);
            }
        }
        addUpTo(calls, 6, "found");
        return calls;
    }

    private static List<Model.Call> goOn(String how) {
        List<Model.Call> calls = new ArrayList<>();
        switch (how) {
            case "counts": addCounts(calls); break;
            case "goes": addGoes(calls); break;
            case "stops": addStops(calls); break;
            case "lights": addLights(calls); break;
            default: addTurnsBack(calls); break;
        }
        addUpTo(calls, 6, "found");
        addUpTo(calls, 2, "told");
        return calls;
    }

    /** How many there are of what is counted as it comes. */
    private static void addCounts(List<Model.Call> calls) {
        for (int cue = 0; cue < 16; cue++) {
            add(calls, "entry", cue, 0, 0, 1, 1);
        }
        for (int i = 0; i < 4; i++) {
            add(calls, "list", i, 15, 1);
            add(calls, "point", i, 250, 0);
        }
        add(calls, "group", 0, 1);
        add(calls, "fixture", 0, 0);
        for (int p = -1; p < 4; p++) {
            add(calls, "master", p, 50);
        }
        add(calls, "blackout", 1);
    }

    private static void addTick(List<Model.Call> calls, int n) {
        add(calls, "tick", n);
        add(calls, "digest");
        for (int l = 0; l < 4; l++) {
            add(calls, "heat", l);
        }
    }

    private static void addGoes(List<Model.Call> calls) {
        addTick(calls, 1);
        addTick(calls, 1);
        addTick(calls, 1);
        for (int p = 0; p < 4; p++) {
            add(calls, "go", p);
        }
        addTick(calls, 1);
        addTick(calls, 5);
        for (int p = 0; p < 4; p++) {
            add(calls, "playback", p, 1);
            add(calls, "playback", p, 3);
            add(calls, "playback", p, 6);
        }
    }

    private static void addStops(List<Model.Call> calls) {
        for (int p = 0; p < 4; p++) {
            add(calls, "stop", p);
        }
        addTick(calls, 2);
        for (int p = 0; p < 4; p++) {
            add(calls, "release", p);
        }
        addTick(calls, 1);
        for (int p = 0; p < 4; p++) {
            add(calls, "load", p, p);
            add(calls, "go", p);
        }
        addTick(calls, 4);
        for (int l = 0; l < 4; l++) {
            add(calls, "pull", l);
            add(calls, "plug", l);
        }
        addTick(calls, 1);
    }

    private static void addLights(List<Model.Call> calls) {
        add(calls, "blackout", 0);
        for (int l = 0; l < 4; l++) {
            add(calls, "line", l, 64);
        }
        addTick(calls, 1);
        for (int f = 0; f < 8; f++) {
            add(calls, "entry", 14, f, f % 3, 222, 0);
            add(calls, "patch", f, f % 4, 2 * f);
        }
        add(calls, "list", 2, 14, 0);
        add(calls, "load", 3, 2);
        add(calls, "go", 3);
        add(calls, "go", 3);
        addTick(calls, 2);
        add(calls, "release", 0);
        addTick(calls, 1);
    }

    private static void addTurnsBack(List<Model.Call> calls) {
        for (int n = 0; n < 3; n++) {
            add(calls, "back", n);
            add(calls, "digest");
            addUpTo(calls, 6, "found");
            addUpTo(calls, 4, "told");
            add(calls, "trace", 0);
        }
        add(calls, "replay");
    }
}
