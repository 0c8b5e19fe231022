import java.util.Random;

/** All promises: runs of random calls, of fixed seeds, are answered by CueBoard as by Model. */
public final class ModelTest {
    private static final int RUNS = 3000, CALLS = 512;
    private static final int[] ODD = {Integer.MIN_VALUE, Integer.MAX_VALUE, -2, -1, 0, 1, 24, 64, 65, 256, 65536, -100};
    private static final int[] BITS = {0, 0x80000000, 0x7FC00000, 0xFFC00001, 0x7F800000, 0xFF800000, 0x7F7FFFFF,
        0xFF7FFFFF, 1, 0x80000001, 0x437F0000, 0x42C80000, 0x43000000, 0x3F000000, 0xC2C80000, 0x7F800001};

    private final Random random;
    private final CueBoard board = new CueBoard();
    private final Model model = new Model();
    private final Check check;
    private final String run;
    // How bold a run is: which calls it favours, and how many odd numbers it gives.
    private final int oddIn, ticksIn, backIn;
    private int calls = 0;

    private ModelTest(int seed, Check check) {
        random = new Random(seed);
        run = "run " + seed + ", call ";
        this.check = check;
        oddIn = 10 + random.nextInt(200);
        ticksIn = 3 + random.nextInt(10);
        backIn = 10 + random.nextInt(200);
    }

    public static void main(String[] args) {
        Check check = new Check();
        for (int seed = 0; seed < RUNS; seed++) {
            new ModelTest(seed, check).play();
        }
        check.end();
    }

    private void play() {
        if (random.nextInt(4) != 0) {
            begin();
        }
        while (calls < CALLS - 170) {
            step();
        }
        look();
    }

    /** A rig with something on it, so that the calls behind it meet more than emptiness. */
    private void begin() {
        for (int l = 0; l < 4; l++) {
            if (random.nextInt(3) != 0) {
                call("line", l, random.nextInt(20));
            }
        }
        int fixtures = 1 + random.nextInt(10);
        for (int f = 0; f < fixtures; f++) {
            call("fixture", random.nextInt(4), random.nextInt(101));
            call("patch", f, random.nextInt(4), random.nextInt(12));
        }
        call("group", 0, 6);
        for (int i = 0; i < 5; i++) {
            call("member", fixtures, i, random.nextInt(fixtures));
        }
        for (int i = 0; i < 12; i++) {
            call("entry", random.nextInt(4), random.nextInt(fixtures + 1), random.nextInt(3), value(), ticks());
        }
        for (int i = 0; i < 8; i++) {
            call("list", random.nextInt(3), random.nextInt(5), random.nextInt(4));
        }
        for (int p = 0; p < 4; p++) {
            call("load", p, random.nextInt(3));
        }
    }

    private void step() {
        if (random.nextInt(ticksIn) == 0) {
            call("tick", random.nextInt(8) == 0 ? number(7) : 1 + random.nextInt(2));
            call("digest");
            return;
        }
        if (random.nextInt(backIn) == 0) {
            call("replay");
            call("back", random.nextInt(5) == 0 ? number(52) : random.nextInt(6));
            call("told", 2);
            return;
        }
        switch (random.nextInt(32)) {
            case 0: call("line", number(4), number(20)); break;
            case 1: call(random.nextBoolean() ? "pull" : "plug", number(4)); break;
            case 2: call(random.nextBoolean() ? "at" : "wide", number(4), number(22)); break;
            case 3: call("fixture", number(4), number(101)); break;
            case 4: call("group", number(3), number(7)); break;
            case 5: case 6: call("member", number(26), number(7), number(26) - 1); break;
            case 7: call("memberAt", number(26), number(40)); break;
            case 8: case 9: ask(); break;
            case 10: call("about", number(26), number(5)); break;
            case 11: case 12: call("patch", number(26), number(4), number(20)); break;
            case 13: call("unpatch", number(26)); break;
            case 14: call("firm", number(26), random.nextInt(2)); break;
            case 15: point(); break;
            case 16: call("curve", number(4), number(256)); break;
            case 17: case 18: call("bend", number(14), number(3), number(5) - 1); break;
            case 19: call("entry", number(16), number(26), number(3), value(), ticks()); break;
            case 20: call("list", number(4), number(16), number(7)); break;
            case 21: call("load", number(4), number(5) - 1); break;
            case 22: case 23: case 24: call("go", number(4)); break;
            case 25: call(random.nextBoolean() ? "stop" : "release", number(4)); break;
            case 26: call("master", number(5) - 1, number(101)); break;
            case 27: call("merge", number(14), number(3), random.nextInt(2)); break;
            case 28: call("value", number(4), number(14), number(3)); break;
            case 29: call("playback", number(4), number(7)); break;
            case 30: call("limit", number(4), number(600)); break;
            default: call("blackout", random.nextInt(3) == 0 ? 1 : 0); break;
        }
    }

    private void ask() {
        call("asks", number(26), number(4));
        for (int i = 0; i < 4; i++) {
            call("trace", i);
        }
        call("trace", number(40));
    }

    private void point() {
        int bits = BITS[random.nextInt(BITS.length)];
        if (random.nextInt(3) == 0) {
            bits = random.nextInt();
        } else if (random.nextBoolean()) {
            bits = Float.floatToIntBits(random.nextFloat() * 300 - 20);
        }
        call("point", number(4), number(256), bits);
    }

    private int value() {
        return random.nextBoolean() ? number(256) : number(65536);
    }

    private int ticks() {
        return random.nextInt(3) == 0 ? number(101) : number(6);
    }

    /** Below n mostly, sometimes anything. */
    private int number(int n) {
        return random.nextInt(oddIn) == 0 ? ODD[random.nextInt(ODD.length)] : random.nextInt(n);
    }

    /** Looks at what can be seen from outside. */
    private void look() {
        for (int l = 0; l < 4; l++) {
            call("heat", l);
            call("over", l);
            for (int p = 0; p < 8; p++) {
                call("at", l, p);
            }
            for (int what = 0; what < 7; what++) {
                call("playback", l, what);
            }
        }
        for (int i = 1; i <= 6; i++) {
            call("found", i);
        }
        for (int what = 0; what < 5; what++) {
            call("told", what);
        }
        for (int f = 0; f < 8; f++) {
            call("value", random.nextInt(4), f, random.nextInt(3));
            call("about", f, random.nextInt(5));
        }
        call("trace", 0);
        call("replay");
        call("digest");
    }

    private void call(String name, int... a) {
        calls++;
        StringBuilder told = new StringBuilder(run).append(calls).append(": ").append(name).append('(');
        for (int i = 0; i < a.length; i++) {
            told.append(i == 0 ? "" : ", ").append(a[i]);
        }
        check.due(told.append(')').toString(), answer(name, a), model.answer(new Model.Call(name, a)));
    }

    private int answer(String name, int[] a) {
        switch (name) {
            case "line": return board.line(a[0], a[1]);
            case "pull": return board.pull(a[0]);
            case "plug": return board.plug(a[0]);
            case "at": return board.at(a[0], a[1]);
            case "wide": return board.wide(a[0], a[1]);
            case "fixture": return board.fixture(a[0], a[1]);
            case "group": return board.group(a[0], a[1]);
            case "member": return board.member(a[0], a[1], a[2]);
            case "memberAt": return board.memberAt(a[0], a[1]);
            case "asks": return board.asks(a[0], a[1]);
            case "trace": return board.trace(a[0]);
            case "about": return board.about(a[0], a[1]);
            case "patch": return board.patch(a[0], a[1], a[2]);
            case "unpatch": return board.unpatch(a[0]);
            case "firm": return board.firm(a[0], a[1] == 1);
            case "point": return board.point(a[0], a[1], a[2]);
            case "curve": return board.curve(a[0], a[1]);
            case "bend": return board.bend(a[0], a[1], a[2]);
            case "entry": return board.entry(a[0], a[1], a[2], a[3], a[4]);
            case "list": return board.list(a[0], a[1], a[2]);
            default: return laterAnswer(name, a);
        }
    }

    private int laterAnswer(String name, int[] a) {
        switch (name) {
            case "load": return board.load(a[0], a[1]);
            case "go": return board.go(a[0]);
            case "stop": return board.stop(a[0]);
            case "release": return board.release(a[0]);
            case "master": return board.master(a[0], a[1]);
            case "merge": return board.merge(a[0], a[1], a[2] == 1);
            case "value": return board.value(a[0], a[1], a[2]);
            case "playback": return board.playback(a[0], a[1]);
            case "limit": return board.limit(a[0], a[1]);
            case "heat": return board.heat(a[0]);
            case "over": return board.over(a[0]);
            case "blackout": return board.blackout(a[0] == 1);
            case "tick": return board.tick(a[0]);
            case "found": return board.found(a[0]);
            case "digest": return board.digest();
            case "replay": return board.replay();
            case "back": return board.back(a[0]);
            case "told": return board.told(a[0]);
            default: throw new IllegalStateException(name);
        }
    }
}
