import java.util.ArrayList;
import java.util.List;
import java.util.TreeSet;
import java.util.regex.Matcher;
import java.util.regex.Pattern;

/**
 * A call that acts changes what is told, and all else stays: of all that can be asked of a board, just these answers
 * are others behind it than without it. What cannot be asked shows where both go on: there Model is asked, too.
 */
public final class StaysTest {
    /** "at(0, 5..11) -12": a row of questions, and what each of them answers then. */
    private static final Pattern ROW = Pattern.compile("(.*[(, ])(\\d+)\\.\\.(\\d+)(\\) .*)");
    private static final int IN_BOOK = 57, ROOM = Run.MOST_CALLS - 80;
    private static final Check CHECK = new Check();
    private static final List<Model.Call> CALLS = new ArrayList<>();

    public static void main(String[] args) {
        lines();
        fixtures();
        patching();
        curves();
        cues();
        playbacks();
        ticks();
        goesOnAsModel(Rigs.LIVELY);
        goesOnAsModel(Rigs.LATE);
        CHECK.end();
    }

    // ---- what differs

    private static void lines() {
        changes("line", 0, 5).only("at(0, 0..2) 0", "at(0, 5..11) -12");
        changes("line", 2, 2).only("at(2, 0..1) 0", "at(2, 2..63) -12");
        changes("line", 3, 1).only("at(3, 0) 0", "at(3, 1..63) -12");
        changes("pull", 0).only("at(0, 0..63) -11");
        changes("plug", 2).only("at(2, 0..2) 0", "at(2, 3..63) -12");
    }

    private static void fixtures() {
        // memberAt finds SORT four times more in the row of questions that ends with FOUND.
        changes("fixture", 2, 33).only("told(0) 9", "about(8, 0) 2", "about(8, 1) 33", "about(8, 2..3) -1",
                "about(8, 4) 0", "memberAt(8, 0..3) -13", "asks(8, 0) 5", "found(3) 30", "value(0, 8, 0..2) -1",
                "value(1, 8, 0..2) -1", "value(2, 8, 0..2) -1", "value(3, 8, 0..2) -1");
        changes("group", 2, 6).only("told(0) 9", "about(8, 0) 4", "about(8, 1) 2", "about(8, 2..3) -1",
                "about(8, 4) 0", "memberAt(8, 0..3) -1", "asks(8, 0) 0", "value(0, 8, 0..2) -13",
                "value(1, 8, 0..2) -13", "value(2, 8, 0..2) -13", "value(3, 8, 0..2) -13");
        changes("member", 5, 1, 4).only("memberAt(5, 1) 4", "memberAt(5, 2) 2", "memberAt(5, 3) 1", "asks(5, 0) 11");
        changes("member", 5, 0, -1).only("memberAt(5, 0) 2", "memberAt(5, 1) 1", "memberAt(5, 2) -1", "asks(5, 0) 7");
    }

    private static void patching() {
        changes("patch", 0, 1, 7).only("about(0, 2) 1", "about(0, 3) 7");
        changes("unpatch", 2).only("about(2, 2..3) -1");
        changes("firm", 1, 1).only("about(1, 4) 1");
        changes("firm", 0, 0).only("about(0, 4) 0");
    }

    private static void curves() {
        // 90.0 at 31, from 100.0 at 30 to 0.0 at 40.
        changes("point", 0, 40, 0).only("curve(0, 31) 1119092736", "curve(0, 200) 0", "curve(0, 202) 0",
                "curve(0, 255) 0");
        changes("point", 2, 255, 0x80000000).only("curve(2, 0) -2147483648", "curve(2, 1) -2147483648",
                "curve(2, 6) -2147483648", "curve(2, 10) -2147483648", "curve(2, 15) -2147483648",
                "curve(2, 20) -2147483648", "curve(2, 25) -2147483648", "curve(2, 30..31) -2147483648",
                "curve(2, 200) -2147483648", "curve(2, 202) -2147483648", "curve(2, 255) -2147483648");
        changes("bend", 1, 1, 2).only();
        changes("bend", 1, 1, -1).only();
        changes("bend", 3, 2, 2).only();
        changes("merge", 0, 0, 0).only();
    }

    private static void cues() {
        changes("entry", 0, 0, 0, 1, 1).only();
        changes("list", 1, 1, 1).only();
        changes("load", 1, 2).only("playback(1, 0) 2", "playback(1, 1) -1");
        changes("load", 1, -1).only("playback(1, 0..1) -1");
    }

    private static void playbacks() {
        changes("go", 0).only("playback(0, 1) 1", "playback(0, 3) 6", "playback(0, 4..5) 5", "playback(0, 6) 7",
                "value(0, 1, 1) 0", "value(0, 2, 1) 0");
        changes("go", 1).only("playback(1, 1) 1", "playback(1, 3) 6", "playback(1, 4..5) 5", "playback(1, 6) 8",
                "value(1, 1, 0) 0", "value(1, 2, 0) 0", "value(1, 3, 0) 0", "value(1, 3, 1) 255");
        changes("go", 2).only("playback(2, 1) 0", "playback(2, 3) 2", "playback(2, 4..5) 4", "playback(2, 6) 2",
                "value(2, 1, 1) 0", "value(2, 2, 1) 0");
        changes("stop", 0).only("playback(0, 3) 0");
        changes("stop", 1).only("playback(1, 3) 0");
        changes("release", 0).only("playback(0, 1) -1", "playback(0, 3) 0", "playback(0, 6) 0", "value(0, 0, 0) -1",
                "value(0, 1, 0) -1", "value(0, 2, 0) -1", "value(0, 3, 0..1) -1");
        changes("release", 1).only("playback(1, 1) -1", "playback(1, 3) 0", "playback(1, 6) 0", "value(1, 0, 0) -1",
                "value(1, 2, 2) -1", "value(1, 4, 2) -1", "value(1, 7, 0) -1");
        changes("master", 1, 30).only("playback(1, 2) 30");
        changes("master", -1, 30).only("told(4) 30");
    }

    private static void ticks() {
        changes("limit", 0, 1).only();
        changes("blackout", 1).only("told(3) 1");
        // LEVEL of 0 is FIRM at 16 (23 times 80 times 90 by 100 each), 1 has 80, RED of 3 is BENT to 200 and cut.
        changes("tick", 1).only("told(1) 4", "found(1) 17", "found(2) 4", "digest() -2145468147",
                "replay() -2145468147", "playback(0, 4..5) 5", "playback(1, 4..5) 5", "playback(2, 4..5) 4",
                "playback(3, 4..5) 4", "at(0, 0) 16", "at(0, 1) 80", "at(0, 2) 144", "at(1, 61) 89",
                "value(0, 0, 0) 89", "value(0, 1, 0) 89", "value(0, 2, 0) 89", "value(0, 3, 0) 40", "value(1, 0, 0) 23",
                "value(1, 2, 2) 50", "value(1, 7, 0) 170");
    }

    /** The answers that a call makes others. */
    private static final class Changes {
        final String call;
        final TreeSet<String> seen = new TreeSet<>();

        Changes(String call) {
            this.call = call;
        }

        void only(String... rows) {
            TreeSet<String> due = new TreeSet<>();
            due.add("told(2) " + (IN_BOOK + 1));
            for (String row : rows) {
                due.addAll(eachOf(row));
            }
            for (String answer : seen) {
                CHECK.due(call + " makes it " + answer, due.contains(answer) ? 1 : 0, 1);
            }
            for (String answer : due) {
                CHECK.due(call + " does not make it " + answer, seen.contains(answer) ? 1 : 0, 1);
            }
        }
    }

    private static List<String> eachOf(String row) {
        List<String> each = new ArrayList<>();
        Matcher matcher = ROW.matcher(row);
        if (!matcher.matches()) {
            each.add(row);
            return each;
        }
        for (int i = Integer.parseInt(matcher.group(2)); i <= Integer.parseInt(matcher.group(3)); i++) {
            each.add(matcher.group(1) + i + matcher.group(4));
        }
        return each;
    }

    private static Changes changes(String name, int... a) {
        CALLS.add(new Model.Call(name, a));
        Changes changes = new Changes(Run.told(name, a));
        for (List<Model.Call> view : Views.asking(ROOM)) {
            Run without = new Run();
            Rigs.LIVELY.set(without);
            Run behind = new Run();
            Rigs.LIVELY.set(behind);
            behind.call(name, a);
            for (Model.Call look : view) {
                int answer = behind.call(look.name, look.a);
                if (answer != without.call(look.name, look.a)) {
                    changes.seen.add(Run.told(look.name, look.a) + " " + answer);
                }
            }
        }
        return changes;
    }

    // ---- what shows later

    /** Each of these calls, then each of the rows that go on: all is answered as by Model. */
    private static void goesOnAsModel(Rigs.Rig rig) {
        for (Model.Call call : CALLS) {
            for (List<Model.Call> view : Views.within(ROOM)) {
                Run x = new Run();
                rig.set(x);
                x.call(call.name, call.a);
                for (Model.Call next : view) {
                    x.call(next.name, next.a);
                }
                asModel("behind " + Run.told(call.name, call.a) + ": ", x);
            }
        }
    }

    private static void asModel(String when, Run x) {
        Model model = new Model();
        for (int i = 0; i < x.calls(); i++) {
            Model.Call call = x.made.get(i);
            int due = model.answer(call);
            int got = x.answers.get(i);
            CHECK.due(got == due ? "" : when + Run.told(call.name, call.a), got, due);
        }
    }
}
