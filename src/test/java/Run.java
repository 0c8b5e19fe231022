import java.util.ArrayList;
import java.util.List;

/** A board whose calls are told by name and numbers, and counted: no more than the document promises an answer to. */
final class Run {
    static final int MOST_CALLS = 512;

    final CueBoard board = new CueBoard();
    /** What was called so far, and what it answered. */
    final List<Model.Call> made = new ArrayList<>();
    final List<Integer> answers = new ArrayList<>();

    int calls() {
        return made.size();
    }

    /** The call, on = 1 standing for true. */
    int call(String name, int... a) {
        if (made.size() >= MOST_CALLS) {
            throw new IllegalStateException("a test makes more calls than are promised");
        }
        int answer = answer(name, a);
        made.add(new Model.Call(name, a));
        answers.add(answer);
        return answer;
    }

    private int answer(String name, int... a) {
        switch (a.length) {
            case 0: return name.equals("digest") ? board.digest() : board.replay();
            case 1: return ofOne(name, a[0]);
            case 2: return ofTwo(name, a[0], a[1]);
            case 3: return ofThree(name, a[0], a[1], a[2]);
            default: return board.entry(a[0], a[1], a[2], a[3], a[4]);
        }
    }

    private int ofOne(String name, int a) {
        switch (name) {
            case "pull": return board.pull(a);
            case "plug": return board.plug(a);
            case "trace": return board.trace(a);
            case "unpatch": return board.unpatch(a);
            case "go": return board.go(a);
            case "stop": return board.stop(a);
            case "release": return board.release(a);
            case "heat": return board.heat(a);
            case "over": return board.over(a);
            case "blackout": return board.blackout(a == 1);
            case "tick": return board.tick(a);
            case "found": return board.found(a);
            case "back": return board.back(a);
            case "told": return board.told(a);
            default: throw new IllegalStateException(name);
        }
    }

    private int ofTwo(String name, int a, int b) {
        switch (name) {
            case "line": return board.line(a, b);
            case "at": return board.at(a, b);
            case "wide": return board.wide(a, b);
            case "fixture": return board.fixture(a, b);
            case "group": return board.group(a, b);
            case "memberAt": return board.memberAt(a, b);
            case "asks": return board.asks(a, b);
            case "about": return board.about(a, b);
            case "firm": return board.firm(a, b == 1);
            case "curve": return board.curve(a, b);
            case "load": return board.load(a, b);
            case "master": return board.master(a, b);
            case "playback": return board.playback(a, b);
            case "limit": return board.limit(a, b);
            default: throw new IllegalStateException(name);
        }
    }

    private int ofThree(String name, int a, int b, int c) {
        switch (name) {
            case "member": return board.member(a, b, c);
            case "patch": return board.patch(a, b, c);
            case "point": return board.point(a, b, c);
            case "bend": return board.bend(a, b, c);
            case "list": return board.list(a, b, c);
            case "merge": return board.merge(a, b, c == 1);
            case "value": return board.value(a, b, c);
            default: throw new IllegalStateException(name);
        }
    }

    static String told(String name, int... a) {
        StringBuilder text = new StringBuilder(name).append('(');
        for (int i = 0; i < a.length; i++) {
            text.append(i == 0 ? "" : ", ").append(a[i]);
        }
        return text.append(')').toString();
    }
}
