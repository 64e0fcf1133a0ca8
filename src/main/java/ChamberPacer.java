import java.util.Arrays;

/**
 * Watches two chambers (A and V) sample by sample and paces them by one of eight modes.
 * The words used here (boundary, level, fallback and so on) are those of the document.
 */
public final class ChamberPacer {
    public static final int NONE = -1;

    private static final int MODE = 0;
    private static final int LOWER = 1;
    private static final int UPPER = 2;
    private static final int DELAY = 3;
    private static final int SHADOW = 4;
    private static final int REST_V = 5;
    private static final int REST_A = 6;
    private static final int BLANK = 7;
    private static final int WAIT = 8;
    private static final int LIMIT_A = 9;
    private static final int LIMIT_V = 10;
    private static final int RATE = 11;
    private static final int FASTEST = 12;
    private static final int QUICK = 13;
    private static final int PARAMETERS = 14;

    private static final int[] LEAST = {0, 30, 20, 5, 10, 10, 5, 0, 0, 1, 1, 0, 25, 10};
    private static final int[] MOST = {7, 200, 120, 30, 60, 60, 60, 10, 60, 500, 500, 1, 150, 60};
    private static final int[] AT_FIRST = {7, 100, 50, 15, 25, 30, 20, 4, 0, 10, 20, 0, 50, 25};

    private static final int MARK_A_SENSED = 0;
    private static final int MARK_V_SENSED = 1;
    private static final int MARK_A_PACED = 2;
    private static final int MARK_V_PACED = 3;
    private static final int MARK_FALLBACK_BEGINS = 4;
    private static final int MARK_FALLBACK_ENDS = 5;
    private static final int MARK_PUT_IN_FORCE = 6;

    private static final int A_WAS_SENSED = 1;
    private static final int V_WAS_SENSED = 2;
    private static final int A_WAS_PACED = 4;
    private static final int V_WAS_PACED = 8;

    private static final int LARGEST_SAMPLE = 1000;
    private static final int LARGEST_ACTIVITY = 255;
    private static final int LONGEST_RUN = 60;

    private static final int EMPTY_CELL = 3;
    private static final int SAFE_MODE = 3;
    private static final int SAFE_LOWER = 100;

    private static final int COMMAND_PROGRAM = 1;
    private static final int COMMAND_ASK = 2;
    private static final int SUM_IS_WRONG = -2;
    private static final int FRAME_IS_WRONG = -3;
    private static final int CELL_IS_EMPTY = -4;

    private final Settings settings = new Settings();
    private final Clock clock = new Clock();
    private final Signal signalA = new Signal();
    private final Signal signalV = new Signal();
    private final Follower follower = new Follower();
    private final Pace pace = new Pace();
    private final Cycles cycles = new Cycles();
    private final Markers markers = new Markers();
    private final Frame frame = new Frame();
    private int status = 0;

    public ChamberPacer() {
    }

    public int tick(int a, int v, int activity) {
        clock.grow();
        pace.adapt(nearest(activity, 0, LARGEST_ACTIVITY));
        // Both are told before any event, as a boundary may put other limits in force.
        boolean aCrosses = signalA.crosses(nearest(a, -LARGEST_SAMPLE, LARGEST_SAMPLE), settings.inForce(LIMIT_A));
        boolean vCrosses = signalV.crosses(nearest(v, -LARGEST_SAMPLE, LARGEST_SAMPLE), settings.inForce(LIMIT_V));
        int events = sense(aCrosses, vCrosses);
        if ((events & V_WAS_SENSED) != 0) {
            return events;
        }
        return events | stimulate((events & A_WAS_SENSED) != 0);
    }

    public int run(int n, int a, int v, int activity) {
        if (n < 1 || n > LONGEST_RUN) {
            return NONE;
        }
        int paces = 0;
        for (int i = 0; i < n; i++) {
            paces += Integer.bitCount(tick(a, v, activity) & (A_WAS_PACED | V_WAS_PACED));
        }
        return paces;
    }

    public int program(int parameter, int value) throws IllegalArgumentException, IllegalStateException {
        if (!Settings.allows(parameter, value)) {
            throw new IllegalArgumentException();
        }
        if (status == EMPTY_CELL) {
            throw new IllegalStateException();
        }
        int before = settings.latest(parameter);
        settings.ask(parameter, value);
        return before;
    }

    public int receive(int b) {
        if (!frame.endsWith(b & 255)) {
            return NONE;
        }
        if (!frame.sumIsRight()) {
            return SUM_IS_WRONG;
        }
        return obey(frame.command(), frame.number(), frame.amount());
    }

    public int battery(int reading) {
        int worst = Math.max(status, statusOf(reading));
        if (worst == EMPTY_CELL && status != EMPTY_CELL) {
            askForSafety();
        }
        status = worst;
        return status;
    }

    public int parameter(int k) {
        return settings.inForce(k);
    }

    public int waiting(int k) {
        return settings.pending(k);
    }

    public int since(int which) {
        switch (which) {
            case 0: return clock.sinceA;
            case 1: return clock.sinceV;
            case 2: return clock.sinceP;
            case 3: return clock.av;
            default: return NONE;
        }
    }

    public int value(int which) {
        switch (which) {
            case 0: return pace.longest;
            case 1: return pace.interval;
            case 2: return pace.level;
            case 3: return follower.fast;
            case 4: return follower.slow;
            case 5: return clock.time;
            default: return NONE;
        }
    }

    public boolean fallback() {
        return follower.gaveUp;
    }

    public int marker(int k, int which) {
        switch (which) {
            case 0: return markers.kind(k);
            case 1: return markers.time(k);
            default: return NONE;
        }
    }

    public int histogram(int bin) {
        return cycles.inBin(bin);
    }

    private int sense(boolean aCrosses, boolean vCrosses) {
        int events = 0;
        if (vCrosses && vIsListenedTo()) {
            ventricularEvent(MARK_V_SENSED, true);
            events |= V_WAS_SENSED;
        }
        if (aCrosses && aIsListenedTo()) {
            atrialEvent(MARK_A_SENSED, true);
            events |= A_WAS_SENSED;
        }
        return events;
    }

    private int stimulate(boolean aWasSensed) {
        int events = 0;
        if (!aWasSensed && aIsDue()) {
            atrialEvent(MARK_A_PACED, false);
            events |= A_WAS_PACED;
        }
        if (vIsDue()) {
            ventricularEvent(MARK_V_PACED, false);
            events |= V_WAS_PACED;
        }
        return events;
    }

    private boolean vIsListenedTo() {
        return sensesV(settings.mode())
            && clock.sinceV >= settings.inForce(REST_V)
            && clock.sinceP >= settings.inForce(BLANK);
    }

    private boolean aIsListenedTo() {
        return sensesA(settings.mode())
            && clock.sinceA >= settings.inForce(REST_A)
            && (isLedByA(settings.mode()) || clock.sinceV >= settings.inForce(SHADOW));
    }

    private boolean aIsDue() {
        if (isLedByA(settings.mode())) {
            return clock.sinceA >= pace.longest;
        }
        return pacesBoth(settings.mode())
            && !clock.atrialSinceVentricular
            && clock.sinceV >= pace.longest - settings.inForce(DELAY);
    }

    private boolean vIsDue() {
        if (!isLedByA(settings.mode()) && clock.sinceV >= pace.longest) {
            return true;
        }
        return clock.avRuns()
            && clock.av >= settings.inForce(DELAY)
            && clock.sinceV >= settings.inForce(UPPER);
    }

    private void atrialEvent(int kind, boolean isSense) {
        markers.keep(kind, clock.time);
        if (isSense && follows(settings.mode())) {
            tellTooFast();
        }
        clock.restartA(!isSense);
        if (beginsAv(isSense)) {
            clock.startAv();
        }
        if (isLedByA(settings.mode())) {
            boundary(isSense);
        }
    }

    private boolean beginsAv(boolean isSense) {
        if (isSense) {
            return follows(settings.mode()) && !follower.gaveUp && !clock.avRuns();
        }
        return pacesBoth(settings.mode());
    }

    private void ventricularEvent(int kind, boolean isSense) {
        markers.keep(kind, clock.time);
        clock.restartV();
        if (!isLedByA(settings.mode())) {
            boundary(isSense);
        }
    }

    private void tellTooFast() {
        boolean before = follower.gaveUp;
        follower.count(clock.sinceA < settings.inForce(QUICK));
        if (!before && follower.gaveUp) {
            markers.keep(MARK_FALLBACK_BEGINS, clock.time);
        }
        if (before && !follower.gaveUp) {
            markers.keep(MARK_FALLBACK_ENDS, clock.time);
        }
    }

    private void boundary(boolean isSense) {
        int modeBefore = settings.mode();
        if (settings.putInForce()) {
            markers.keep(MARK_PUT_IN_FORCE, clock.time);
        }
        if (settings.mode() != modeBefore) {
            leaveMode();
        }
        cycles.end(clock.time);
        int lower = settings.inForce(LOWER);
        pace.approach(lower, settings.inForce(FASTEST));
        int wait = isSense ? settings.inForce(WAIT) : 0;
        pace.beginCycle(lower + wait, settings.inForce(RATE) == 1);
    }

    private void leaveMode() {
        clock.stopAv();
        if (follower.gaveUp) {
            markers.keep(MARK_FALLBACK_ENDS, clock.time);
        }
        follower.forget();
    }

    private int obey(int command, int number, int amount) {
        if (command == COMMAND_ASK && Settings.exists(number)) {
            return settings.inForce(number);
        }
        if (command != COMMAND_PROGRAM || !Settings.allows(number, amount)) {
            return FRAME_IS_WRONG;
        }
        if (status == EMPTY_CELL) {
            return CELL_IS_EMPTY;
        }
        settings.ask(number, amount);
        return 0;
    }

    private void askForSafety() {
        settings.dropPending();
        settings.ask(MODE, SAFE_MODE);
        settings.ask(LOWER, SAFE_LOWER);
        settings.ask(WAIT, 0);
        settings.ask(RATE, 0);
    }

    private static boolean isLedByA(int mode) {
        return mode == 1 || mode == 4;
    }

    private static boolean pacesBoth(int mode) {
        return mode == 2 || mode == 6 || mode == 7;
    }

    private static boolean sensesA(int mode) {
        return mode >= 4;
    }

    private static boolean sensesV(int mode) {
        return mode == 3 || mode >= 5;
    }

    private static boolean follows(int mode) {
        return mode == 5 || mode == 7;
    }

    private static int statusOf(int reading) {
        if (reading >= 280) {
            return 0;
        }
        if (reading >= 250) {
            return 1;
        }
        return reading >= 220 ? 2 : EMPTY_CELL;
    }

    private static int nearest(int number, int least, int most) {
        if (number < least) {
            return least;
        }
        return number > most ? most : number;
    }

    /** The parameters, as they are in force and as they are pending. */
    private static final class Settings {
        private final int[] forced = AT_FIRST.clone();
        private final int[] asked = new int[PARAMETERS];

        Settings() {
            Arrays.fill(asked, NONE);
        }

        static boolean exists(int k) {
            return k >= 0 && k < PARAMETERS;
        }

        static boolean allows(int k, int amount) {
            return exists(k) && amount >= LEAST[k] && amount <= MOST[k];
        }

        int mode() {
            return forced[MODE];
        }

        int inForce(int k) {
            return exists(k) ? forced[k] : NONE;
        }

        int pending(int k) {
            return exists(k) ? asked[k] : NONE;
        }

        int latest(int k) {
            int next = pending(k);
            return next == NONE ? inForce(k) : next;
        }

        void ask(int k, int amount) {
            if (allows(k, amount)) {
                asked[k] = amount;
            }
        }

        void dropPending() {
            Arrays.fill(asked, NONE);
        }

        /** Says whether anything was pending. */
        boolean putInForce() {
            boolean any = false;
            for (int k = 0; k < PARAMETERS; k++) {
                if (asked[k] != NONE) {
                    forced[k] = asked[k];
                    asked[k] = NONE;
                    any = true;
                }
            }
            return any;
        }
    }

    /** What is counted in ticks; AV is NONE while it does not run. */
    private static final class Clock {
        private static final int LONGEST_SINCE = 1000;

        int time = 0;
        int sinceA = 0;
        int sinceV = 0;
        int sinceP = 0;
        int av = NONE;
        boolean atrialSinceVentricular = false;

        void grow() {
            time++;
            sinceA = Math.min(sinceA + 1, LONGEST_SINCE);
            sinceV = Math.min(sinceV + 1, LONGEST_SINCE);
            sinceP = Math.min(sinceP + 1, LONGEST_SINCE);
            if (avRuns()) {
                av++;
            }
        }

        boolean avRuns() {
            return av != NONE;
        }

        void startAv() {
            av = 0;
        }

        void stopAv() {
            av = NONE;
        }

        void restartA(boolean isPace) {
            sinceA = 0;
            if (isPace) {
                sinceP = 0;
            }
            atrialSinceVentricular = true;
        }

        void restartV() {
            sinceV = 0;
            stopAv();
            atrialSinceVentricular = false;
        }
    }

    /** The latest two samples of a chamber. */
    private static final class Signal {
        private int oneBefore = 0;
        private int twoBefore = 0;

        /** Takes the sample in, too. */
        boolean crosses(int sample, int limit) {
            int difference = Math.abs(sample - twoBefore);
            twoBefore = oneBefore;
            oneBefore = sample;
            return difference >= limit;
        }
    }

    /** Tells whether A is too fast to be followed. */
    private static final class Follower {
        private static final int FAST_TO_GIVE_UP = 5;
        private static final int SLOW_TO_RETURN = 3;

        int fast = 0;
        int slow = 0;
        boolean gaveUp = false;

        void count(boolean isQuick) {
            fast = isQuick ? fast + 1 : 0;
            slow = isQuick ? 0 : slow + 1;
            if (fast >= FAST_TO_GIVE_UP) {
                gaveUp = true;
            }
            if (slow >= SLOW_TO_RETURN) {
                gaveUp = false;
            }
        }

        void forget() {
            fast = 0;
            slow = 0;
            gaveUp = false;
        }
    }

    /** How long a cycle may be: L (here: longest), and the pace interval that activity leads. */
    private static final class Pace {
        private static final int LEVEL_OF_ACTIVITY = 16;
        private static final int HIGHEST_LEVEL = LEVEL_OF_ACTIVITY * LARGEST_ACTIVITY;
        private static final int STRIDE = 4;

        int level = 0;
        int interval = 100;
        int longest = 100;

        void adapt(int activity) {
            int wanted = LEVEL_OF_ACTIVITY * activity;
            if (wanted > level) {
                level += (wanted - level) / 8;
            } else {
                level -= (level - wanted) / 32;
            }
        }

        void approach(int lower, int fastest) {
            int goal = lower - (lower - fastest) * level / HIGHEST_LEVEL;
            interval += nearest(goal - interval, -STRIDE, STRIDE);
        }

        void beginCycle(int slowest, boolean heedsActivity) {
            longest = heedsActivity ? Math.min(slowest, interval) : slowest;
        }
    }

    /** The histogram of the cycles by their ticks. */
    private static final class Cycles {
        private static final int BINS = 8;
        private static final int TICKS_OF_BIN = 25;

        private final int[] bins = new int[BINS];
        private int begun = 0;

        void end(int time) {
            bins[nearest((time - begun) / TICKS_OF_BIN, 0, BINS - 1)]++;
            begun = time;
        }

        int inBin(int bin) {
            return bin >= 0 && bin < BINS ? bins[bin] : NONE;
        }
    }

    /** The latest markers, in rows that are used round and round. */
    private static final class Markers {
        private static final int KEPT = 12;

        private final int[] kinds = new int[KEPT];
        private final int[] times = new int[KEPT];
        private int next = 0;
        private int count = 0;

        void keep(int kind, int time) {
            kinds[next] = kind;
            times[next] = time;
            next = (next + 1) % KEPT;
            if (count < KEPT) {
                count++;
            }
        }

        int kind(int k) {
            return has(k) ? kinds[place(k)] : NONE;
        }

        int time(int k) {
            return has(k) ? times[place(k)] : NONE;
        }

        private boolean has(int k) {
            return k >= 0 && k < count;
        }

        private int place(int k) {
            return (next + KEPT - 1 - k) % KEPT;
        }
    }

    /** Gathers the bytes of a frame behind its 126. */
    private static final class Frame {
        private static final int BEGIN = 126;
        private static final int SUMMED = 4;
        private static final int LENGTH = SUMMED + 1;
        private static final int DIVISOR = 263;

        private final int[] bytes = new int[LENGTH];
        private int got = NONE;

        /** Takes a byte in and says whether a frame ends with it. */
        boolean endsWith(int b) {
            if (got < 0 || got >= LENGTH) {
                got = b == BEGIN ? 0 : NONE;
                return false;
            }
            bytes[got] = b;
            got++;
            return got == LENGTH;
        }

        boolean sumIsRight() {
            int sum = 0;
            for (int i = 0; i < SUMMED; i++) {
                sum = divide(sum ^ bytes[i]);
            }
            return sum == bytes[SUMMED];
        }

        int command() {
            return bytes[0];
        }

        int number() {
            return bytes[1];
        }

        int amount() {
            return bytes[2] * 256 + bytes[3];
        }

        private static int divide(int rest) {
            int c = rest;
            for (int i = 0; i < 8; i++) {
                c = 2 * c;
                if (c >= 256) {
                    c ^= DIVISOR;
                }
            }
            return c;
        }
    }
}
