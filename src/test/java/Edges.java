import java.util.ArrayList;
import java.util.IdentityHashMap;
import java.util.List;
import java.util.Map;

/**
 * Calls at the edges of what is taken, each on a board of its own: what they answer, and that those which are refused,
 * find something, or only ask change nothing. For that a twin of the board does without the call; both are looked at,
 * and go on, alike.
 */
final class Edges {
    private static final int NOTHING = -11, STORE = -16;

    private final Check check;
    // What the twin answered, by views.
    private final Map<Rigs.Rig, List<List<Model.Call>>> views = new IdentityHashMap<>();
    private final Map<Rigs.Rig, List<int[]>> twins = new IdentityHashMap<>();

    Edges(Check check) {
        this.check = check;
    }

    /** A call that acts is taken: THE BOOK has it. */
    void taken(String why, Rigs.Rig rig, int due, String name, int... a) {
        Run x = new Run();
        rig.set(x);
        int inBook = x.call("told", 2);
        String call = why + ": " + Run.told(name, a);
        check.due(call, x.call(name, a), due);
        check.due(call + " is in THE BOOK", x.call("told", 2), Math.min(inBook + 1, 121));
    }

    /** A call is refused, finds something, or only asks: all is as it was (but for what it found, and THE TRACE). */
    void still(String why, Rigs.Rig rig, int due, String name, int... a) {
        String call = why + ": " + Run.told(name, a);
        List<List<Model.Call>> all = viewsOf(rig);
        for (int i = 0; i < all.size(); i++) {
            Run x = new Run();
            rig.set(x);
            check.due(call, x.call(name, a), due);
            boolean leavesTrace = name.equals("asks") && due != CueBoard.BAD;
            compare(call, x, all.get(i), twins.get(rig).get(i), foundBy(name, due), leavesTrace);
        }
    }

    /** One board is as the other is, however it came there. */
    void alike(String why, Rigs.Rig rig, Rigs.Rig other) {
        for (List<Model.Call> view : Views.within(Math.min(roomBehind(rig), roomBehind(other)))) {
            Run x = new Run();
            other.set(x);
            compare(why, x, view, answers(rig, view), 0, false);
        }
    }

    /** Number i of a call is taken from one to another, and BAD beyond both; the call answers the same then. */
    void between(String why, Rigs.Rig rig, int due, int i, int from, int to, String name, int... a) {
        inside(why, rig, due, i, from, name, a);
        inside(why, rig, due, i, to, name, a);
        outside(why, rig, i, from - 1, name, a);
        outside(why, rig, i, to + 1, name, a);
        outside(why, rig, i, Integer.MIN_VALUE, name, a);
        outside(why, rig, i, Integer.MAX_VALUE, name, a);
    }

    private void inside(String why, Rigs.Rig rig, int due, int i, int n, String name, int[] a) {
        if (due >= 0 && Model.ACTS.contains(name)) {
            taken(why, rig, due, name, with(a, i, n));
        } else {
            still(why, rig, due, name, with(a, i, n));
        }
    }

    private void outside(String why, Rigs.Rig rig, int i, int n, String name, int[] a) {
        still(why, rig, CueBoard.BAD, name, with(a, i, n));
    }

    private static int[] with(int[] a, int i, int n) {
        int[] b = a.clone();
        b[i] = n;
        return b;
    }

    /** Which FINDING it was; 0: none. What digest() and replay() answer is none. */
    private static int foundBy(String name, int due) {
        boolean digest = name.equals("digest") || name.equals("replay");
        return !digest && due <= NOTHING && due >= STORE ? -10 - due : 0;
    }

    private void compare(String call, Run x, List<Model.Call> view, int[] twin, int found, boolean leavesTrace) {
        int more = found;
        for (int i = 0; i < twin.length; i++) {
            Model.Call look = view.get(i);
            int got = x.call(look.name, look.a);
            int want = twin[i];
            if (look.name.equals("back") && got >= 0) {
                more = 0;
            }
            if (more != 0 && look.name.equals("found") && look.a[0] == more) {
                want++;
            }
            if (!leavesTrace || !look.name.equals("trace")) {
                check.due(got == want ? "" : "behind " + call + ", " + Run.told(look.name, look.a), got, want);
            }
        }
    }

    private List<List<Model.Call>> viewsOf(Rigs.Rig rig) {
        if (!views.containsKey(rig)) {
            // One call less, for the one that is tested.
            views.put(rig, Views.within(roomBehind(rig) - 1));
            twins.put(rig, new ArrayList<>());
            for (List<Model.Call> view : views.get(rig)) {
                twins.get(rig).add(answers(rig, view));
            }
        }
        return views.get(rig);
    }

    private static int roomBehind(Rigs.Rig rig) {
        Run x = new Run();
        rig.set(x);
        return Run.MOST_CALLS - x.calls();
    }

    private static int[] answers(Rigs.Rig rig, List<Model.Call> view) {
        Run x = new Run();
        rig.set(x);
        int[] answers = new int[view.size()];
        for (int i = 0; i < answers.length; i++) {
            answers[i] = x.call(view.get(i).name, view.get(i).a);
        }
        return answers;
    }
}
