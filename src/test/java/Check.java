/** Compares answers with those that are due, prints what differs, and ends the program accordingly. */
final class Check {
    // A broken class would fill the screen else.
    private static final int MOST_PRINTED = 200;

    private int wrong = 0;
    private int compared = 0;

    void due(String call, long got, long want) {
        compared++;
        if (got != want) {
            wrong++;
            if (wrong <= MOST_PRINTED) {
                System.out.println(call + " answered " + got + ", due is " + want);
            }
        }
    }

    /** The bytes of a line from place 0 on. */
    void bytes(String when, CueBoard x, int l, int... want) {
        for (int p = 0; p < want.length; p++) {
            due(when + ": at(" + l + ", " + p + ")", x.at(l, p), want[p]);
        }
    }

    /** THE TRACE, whole. */
    void trace(String when, CueBoard x, int... want) {
        for (int i = 0; i < want.length; i++) {
            due(when + ": trace(" + i + ")", x.trace(i), want[i]);
        }
        due(when + ": trace(" + want.length + ")", x.trace(want.length), CueBoard.NONE);
    }

    /** FOUND, of FINDINGS 1 to 6. */
    void found(String when, CueBoard x, int... want) {
        for (int i = 0; i < want.length; i++) {
            due(when + ": found(" + (i + 1) + ")", x.found(i + 1), want[i]);
        }
    }

    void end() {
        System.out.println(compared + " answers compared, " + wrong + " wrong");
        if (wrong != 0 || compared == 0) {
            System.exit(1);
        }
    }
}
