import java.util.Arrays;

/** What the tests share: comparing answers, and bringing a pacer to where a test begins. */
final class Check {
    /** When the first cycle of a new, quiet object ends: A is paced at 85, V at 100. */
    static final int FIRST_BOUNDARY = 100;

    /** The parameters' ranges and values at first, by their numbers. */
    static final int[] LEAST = {0, 30, 20, 5, 10, 10, 5, 0, 0, 1, 1, 0, 25, 10};
    static final int[] MOST = {7, 200, 120, 30, 60, 60, 60, 10, 60, 500, 500, 1, 150, 60};
    static final int[] AT_FIRST = {7, 100, 50, 15, 25, 30, 20, 4, 0, 10, 20, 0, 50, 25};

    private static int compared = 0;
    private static int wrong = 0;

    private Check() {
    }

    static void due(String what, long got, long want) {
        compared++;
        if (got != want) {
            wrong++;
            System.out.println(what + " answered " + got + ", due is " + want);
        }
    }

    static void due(String what, boolean got, boolean want) {
        due(what, got ? 1 : 0, want ? 1 : 0);
    }

    static void programRefuses(ChamberPacer x, int parameter, int value, Class<? extends RuntimeException> want) {
        Class<?> got = null;
        try {
            x.program(parameter, value);
        } catch (RuntimeException e) {
            got = e.getClass();
        }
        due("program(" + parameter + ", " + value + ") throws " + want.getSimpleName(), got == want, true);
    }

    /** Ends a test: the exit code tells whether an answer was wrong. */
    static void end() {
        System.out.println(compared + " answers, " + wrong + " not as due");
        if (wrong != 0 || compared == 0) {
            System.exit(1);
        }
    }

    /** Ticks with nothing to be sensed and no activity; answers the number of paces. */
    static int quiet(ChamberPacer x, int ticks) {
        return steady(x, ticks, 0);
    }

    static int steady(ChamberPacer x, int ticks, int activity) {
        int paces = 0;
        for (int left = ticks; left > 0; left -= 60) {
            paces += x.run(Math.min(left, 60), 0, 0, activity);
        }
        return paces;
    }

    /**
     * A pacer at time 100, just behind its first boundary (a pace of V), with the parameters
     * given as number, value, number, value ... put in force there: SINCE V 0, SINCE A and P 15.
     */
    static ChamberPacer settled(int... numbersAndValues) {
        ChamberPacer x = new ChamberPacer();
        ask(x, numbersAndValues);
        quiet(x, FIRST_BOUNDARY);
        return x;
    }

    static void ask(ChamberPacer x, int... numbersAndValues) {
        for (int i = 0; i < numbersAndValues.length; i += 2) {
            x.program(numbersAndValues[i], numbersAndValues[i + 1]);
        }
    }

    /** The answer of the n-th tick from here, in which A has a spike, all before it being quiet. */
    static int spikeA(ChamberPacer x, int n) {
        quiet(x, n - 1);
        return x.tick(50, 0, 0);
    }

    static int spikeV(ChamberPacer x, int n) {
        quiet(x, n - 1);
        return x.tick(0, 50, 0);
    }

    static int spikeBoth(ChamberPacer x, int n) {
        quiet(x, n - 1);
        return x.tick(50, 50, 0);
    }

    /** All that can be asked of a pacer, in 71 calls. */
    static int[] state(ChamberPacer x) {
        int[] state = new int[71];
        int n = 0;
        for (int k = 0; k < 14; k++) {
            state[n++] = x.parameter(k);
            state[n++] = x.waiting(k);
        }
        for (int which = 0; which < 4; which++) {
            state[n++] = x.since(which);
        }
        for (int which = 0; which < 6; which++) {
            state[n++] = x.value(which);
        }
        state[n++] = x.fallback() ? 1 : 0;
        for (int k = 0; k < 12; k++) {
            state[n++] = x.marker(k, 0);
            state[n++] = x.marker(k, 1);
        }
        for (int bin = 0; bin < 8; bin++) {
            state[n++] = x.histogram(bin);
        }
        return state;
    }

    static void same(String what, int[] got, int[] want) {
        due(what + " " + Arrays.toString(got), Arrays.equals(got, want), true);
    }

    /** Nothing is pending. */
    static void nothingWaits(String what, ChamberPacer x) {
        for (int k = 0; k < 14; k++) {
            due(what + ": waiting(" + k + ")", x.waiting(k), ChamberPacer.NONE);
        }
    }

    /** Sends the bytes as they are; answers what the last one answered. */
    static int bytes(ChamberPacer x, int... bytes) {
        int answer = ChamberPacer.NONE;
        for (int b : bytes) {
            answer = x.receive(b);
        }
        return answer;
    }

    /** Sends a frame with a right sum; answers what its last byte answered. */
    static int frame(ChamberPacer x, int command, int number, int value) {
        int[] summed = {command, number, value >> 8, value & 255};
        x.receive(126);
        bytes(x, summed);
        return x.receive(sum(summed));
    }

    /** The remainder of the bytes, as one polynomial over two elements, by x^8 + x^2 + x + 1. */
    static int sum(int... bytes) {
        long rest = 0;
        for (int b : bytes) {
            rest = rest << 8 | b;
        }
        rest <<= 8;
        for (int bit = 8 * bytes.length + 7; bit >= 8; bit--) {
            if ((rest >> bit & 1) != 0) {
                rest ^= 263L << bit - 8;
            }
        }
        return (int) rest;
    }
}
