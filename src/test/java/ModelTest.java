import java.util.Random;

/** All promises: runs of random calls, of fixed seeds, are answered by CueBoard as by Model. */
public final class ModelTest {
    private static final int RUNS = 3000, CALLS_TO_LOOK = 170;
    private static final int[] ODD = {Integer.MIN_VALUE, Integer.MAX_VALUE, -2, -1, 0, 1, 24, 64, 65, 256, 65536, -100};
    private static final int[] BITS = {0, 0x80000000, 0x7FC00000, 0xFFC00001, 0x7F800000, 0xFF800000, 0x7F7FFFFF,
        0xFF7FFFFF, 1, 0x80000001, 0x437F0000, 0x42C80000, 0x43000000, 0x3F000000, 0xC2C80000, 0x7F800001};

    private final Random random;
    private final Run board = new Run();
    private final Model model = new Model();
    private final Check check;
    private final String run;
    // How bold a run is: which calls it favours, and how many odd numbers it gives.
    private final int oddIn, ticksIn, backIn;

    private ModelTest(int seed, Check check) {
        random = new Random(seed);
        run = "run " + seed + ", call ";
        this.check = check;
        oddIn = 10 + random.nextInt(200);
        ticksIn = 3 + random.nextInt(10);
        backIn = 10 + random.nextInt(200);
    }

    public static void main(String[] args) {
        Check check = new Check();
        for (int seed = 0; seed < RUNS; seed++) {
            new ModelTest(seed, check).play();
        }
        check.end();
    }

    private void play() {
        if (random.nextInt(4) != 0) {
            begin();
        }
        while (board.calls() < Run.MOST_CALLS - CALLS_TO_LOOK) {
            step();
        }
        look();
    }

    /** A rig with something on it, so that the calls behind it meet more than emptiness. */
    private void begin() {
        for (int l = 0; l < 4; l++) {
            if (random.nextInt(3) != 0) {
                call("line", l, random.nextInt(20));
            }
        }
        int fixtures = 1 + random.nextInt(10);
        for (int f = 0; f < fixtures; f++) {
            call("fixture", random.nextInt(4), random.nextInt(101));
            call("patch", f, random.nextInt(4), random.nextInt(12));
        }
        call("group", 0, 6);
        for (int i = 0; i < 5; i++) {
            call("member", fixtures, i, random.nextInt(fixtures));
        }
        for (int i = 0; i < 12; i++) {
            call("entry", random.nextInt(4), random.nextInt(fixtures + 1), random.nextInt(3), value(), ticks());
        }
        for (int i = 0; i < 8; i++) {
            call("list", random.nextInt(3), random.nextInt(5), random.nextInt(4));
        }
        for (int p = 0; p < 4; p++) {
            call("load", p, random.nextInt(3));
        }
    }

    private void step() {
        if (random.nextInt(ticksIn) == 0) {
            call("tick", random.nextInt(8) == 0 ? number(7) : 1 + random.nextInt(2));
            call("digest");
            return;
        }
        if (random.nextInt(backIn) == 0) {
            call("replay");
            call("back", random.nextInt(5) == 0 ? number(52) : random.nextInt(6));
            call("told", 2);
            return;
        }
        switch (random.nextInt(32)) {
            case 0: call("line", number(4), number(20)); break;
            case 1: call(random.nextBoolean() ? "pull" : "plug", number(4)); break;
            case 2: call(random.nextBoolean() ? "at" : "wide", number(4), number(22)); break;
            case 3: call("fixture", number(4), number(101)); break;
            case 4: call("group", number(3), number(7)); break;
            case 5: case 6: call("member", number(26), number(7), number(26) - 1); break;
            case 7: call("memberAt", number(26), number(40)); break;
            case 8: case 9: ask(); break;
            case 10: call("about", number(26), number(5)); break;
            case 11: case 12: call("patch", number(26), number(4), number(20)); break;
            case 13: call("unpatch", number(26)); break;
            case 14: call("firm", number(26), random.nextInt(2)); break;
            case 15: point(); break;
            case 16: call("curve", number(4), number(256)); break;
            case 17: case 18: call("bend", number(14), number(3), number(5) - 1); break;
            case 19: call("entry", number(16), number(26), number(3), value(), ticks()); break;
            case 20: call("list", number(4), number(16), number(7)); break;
            case 21: call("load", number(4), number(5) - 1); break;
            case 22: case 23: case 24: call("go", number(4)); break;
            case 25: call(random.nextBoolean() ? "stop" : "release", number(4)); break;
            case 26: call("master", number(5) - 1, number(101)); break;
            case 27: call("merge", number(14), number(3), random.nextInt(2)); break;
            case 28: call("value", number(4), number(14), number(3)); break;
            case 29: call("playback", number(4), number(7)); break;
            case 30: call("limit", number(4), number(600)); break;
            default: call("blackout", random.nextInt(3) == 0 ? 1 : 0); break;
        }
    }

    private void ask() {
        call("asks", number(26), number(4));
        for (int i = 0; i < 4; i++) {
            call("trace", i);
        }
        call("trace", number(40));
    }

    private void point() {
        int bits = BITS[random.nextInt(BITS.length)];
        if (random.nextInt(3) == 0) {
            bits = random.nextInt();
        } else if (random.nextBoolean()) {
            bits = Float.floatToIntBits(random.nextFloat() * 300 - 20);
        }
        call("point", number(4), number(256), bits);
    }

    private int value() {
        return random.nextBoolean() ? number(256) : number(65536);
    }

    private int ticks() {
        return random.nextInt(3) == 0 ? number(101) : number(6);
    }

    /** Below n mostly, sometimes anything. */
    private int number(int n) {
        return random.nextInt(oddIn) == 0 ? ODD[random.nextInt(ODD.length)] : random.nextInt(n);
    }

    /** Looks at what can be seen from outside. */
    private void look() {
        for (int l = 0; l < 4; l++) {
            call("heat", l);
            call("over", l);
            for (int p = 0; p < 8; p++) {
                call("at", l, p);
            }
            for (int what = 0; what < 7; what++) {
                call("playback", l, what);
            }
        }
        for (int i = 1; i <= 6; i++) {
            call("found", i);
        }
        for (int what = 0; what < 5; what++) {
            call("told", what);
        }
        for (int f = 0; f < 8; f++) {
            call("value", random.nextInt(4), f, random.nextInt(3));
            call("about", f, random.nextInt(5));
        }
        call("trace", 0);
        call("replay");
        call("digest");
    }

    private void call(String name, int... a) {
        int got = board.call(name, a);
        int want = model.answer(new Model.Call(name, a));
        check.due(got == want ? "" : run + board.calls() + ": " + Run.told(name, a), got, want);
    }
}
