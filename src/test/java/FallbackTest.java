/** Promise 11: when a chamber that is too fast is given up, and followed again. */
public final class FallbackTest {
    private static final int FAST = 3;
    private static final int SLOW = 4;
    private static final int AV = 3;

    public static void main(String[] args) {
        for (int mode = 5; mode <= 7; mode += 2) {
            fiveFastSensesBeginIt(mode);
            itDoesNotFollow(mode);
            theFifthIsNotFollowed(mode);
            threeSlowSensesEndIt(mode);
            aFastSenseKeepsIt(mode);
            anotherModeEndsIt(mode);
            theSameModeKeepsIt(mode);
        }
        pacesDoNotCount();
        aSlowSenseBreaksTheFastOnes();
        modesThatDoNotFollowHaveNone();
        Check.end();
    }

    /** L is 200, UPPER 120, QUICK 60: there is room for fast senses of A in one cycle. */
    private static ChamberPacer roomy(int mode) {
        return Check.settled(0, mode, 1, 200, 2, 120, 4, 10, 6, 5, 13, 60);
    }

    private static ChamberPacer inFallback(int mode) {
        ChamberPacer x = roomy(mode);
        Check.spikeA(x, 30);
        for (int i = 0; i < 4; i++) {
            Check.spikeA(x, 20);
        }
        return x;
    }

    /** In fallback, just behind a pace of V. */
    private static ChamberPacer inNextCycle(int mode) {
        ChamberPacer x = inFallback(mode);
        Check.quiet(x, 10);
        return x;
    }

    private static void fiveFastSensesBeginIt(int mode) {
        ChamberPacer x = roomy(mode);
        Check.quiet(x, 10);
        for (int count = 1; count <= 5; count++) {
            Check.due("before sense " + count, x.fallback(), false);
            Check.due("A is sensed", Check.spikeA(x, 20), 1);
            Check.due("the fast count", x.value(FAST), count);
        }
        Check.due("behind the fifth", x.fallback(), true);
        Check.due("its marker", x.marker(0, 0), 4);
        Check.due("its marker's time", x.marker(0, 1), 210);
        Check.due("the sense's marker is older", x.marker(1, 0), 0);
        Check.due("AV that runs goes on", x.since(AV), 80);
        Check.quiet(x, 9);
        Check.due("V is still paced by it", x.tick(0, 0, 0), 8);
    }

    private static void itDoesNotFollow(int mode) {
        ChamberPacer x = inNextCycle(mode);
        Check.due("A is sensed", Check.spikeA(x, 20), 1);
        Check.due("the fast count", x.value(FAST), 6);
        Check.due("AV does not run", x.since(AV), ChamberPacer.NONE);
        Check.due("fallback begins once", x.marker(0, 0), 0);
        Check.due("no pace before L", Check.quiet(x, 179), 0);
        Check.due("V at L", x.tick(0, 0, 0), 8);
    }

    private static void theFifthIsNotFollowed(int mode) {
        ChamberPacer x = roomy(mode);
        Check.quiet(x, 10);
        for (int i = 0; i < 4; i++) {
            Check.spikeA(x, 20);
        }
        Check.due("V is paced by UPPER", Check.quiet(x, 30), 1);
        Check.due("four are not enough", x.fallback(), false);
        Check.due("the fifth, in a new cycle", Check.spikeA(x, 20), 1);
        Check.due("it begins fallback", x.fallback(), true);
        Check.due("it begins no AV", x.since(AV), ChamberPacer.NONE);
        Check.due("no pace before L", Check.quiet(x, 179), 0);
        Check.due("V at L", x.tick(0, 0, 0), 8);
    }

    private static void threeSlowSensesEndIt(int mode) {
        ChamberPacer x = inNextCycle(mode);
        Check.spikeA(x, 10);
        Check.spikeA(x, 60);
        Check.due("the slow count", x.value(SLOW), 1);
        Check.due("the fast count", x.value(FAST), 0);
        Check.spikeA(x, 60);
        Check.due("two are not enough", x.fallback(), true);
        Check.due("two do not follow", x.since(AV), ChamberPacer.NONE);
        Check.spikeA(x, 60);
        Check.due("three are", x.fallback(), false);
        Check.due("the third is followed", x.since(AV), 0);
        Check.due("its end's marker", x.marker(0, 0), 5);
        Check.due("its end's time", x.marker(0, 1), x.value(5));
        Check.due("the sense's marker", x.marker(1, 0), 0);
        Check.quiet(x, 10);
        Check.spikeA(x, 60);
        Check.due("a fourth slow one", x.value(SLOW), 4);
        Check.due("it ends once", x.marker(0, 0), 0);
    }

    private static void aFastSenseKeepsIt(int mode) {
        ChamberPacer x = inNextCycle(mode);
        Check.spikeA(x, 10);
        Check.spikeA(x, 60);
        Check.spikeA(x, 60);
        Check.spikeA(x, 59);
        Check.due("the slow count begins anew", x.value(SLOW), 0);
        Check.due("the fast count, too", x.value(FAST), 1);
        Check.due("it goes on", x.fallback(), true);
    }

    private static void anotherModeEndsIt(int mode) {
        for (int next = 0; next <= 7; next++) {
            if (next == mode) {
                continue;
            }
            ChamberPacer x = inFallback(mode);
            x.program(0, next);
            Check.quiet(x, 9);
            Check.due("before the boundary", x.fallback(), true);
            x.tick(0, 0, 0);
            Check.due("in mode " + next, x.fallback(), false);
            Check.due("the fast count in mode " + next, x.value(FAST), 0);
            Check.due("the slow count in mode " + next, x.value(SLOW), 0);
            int[] kinds = {5, 6, 3, 4};
            for (int k = 0; k < kinds.length; k++) {
                Check.due("marker " + k + " in mode " + next, x.marker(k, 0), kinds[k]);
            }
        }
        ChamberPacer calm = roomy(mode);
        calm.program(0, 12 - mode);
        Check.spikeA(calm, 60);
        Check.spikeV(calm, 20);
        Check.due("another mode makes the slow count 0", calm.value(SLOW), 0);
        Check.due("without fallback no marker of its end", calm.marker(0, 0), 6);
    }

    private static void theSameModeKeepsIt(int mode) {
        ChamberPacer x = inFallback(mode);
        x.program(0, mode);
        Check.quiet(x, 10);
        Check.due("the same mode again", x.fallback(), true);
        Check.due("the count is kept", x.value(FAST), 5);
        Check.due("the marker of what was put in force", x.marker(0, 0), 6);
    }

    private static void pacesDoNotCount() {
        ChamberPacer x = Check.settled(0, 7, 13, 60);
        Check.spikeA(x, 40);
        Check.due("a fast sense", x.value(FAST), 1);
        Check.quiet(x, 15 + 85);
        Check.due("A was paced", x.since(0), 0);
        Check.due("the fast count behind a pace", x.value(FAST), 1);
        Check.due("the slow count behind a pace", x.value(SLOW), 0);
    }

    private static void aSlowSenseBreaksTheFastOnes() {
        ChamberPacer x = roomy(5);
        Check.spikeA(x, 25);
        for (int i = 0; i < 3; i++) {
            Check.spikeA(x, 10);
        }
        Check.due("four fast ones", x.value(FAST), 4);
        Check.spikeA(x, 60);
        Check.due("a slow one", x.value(FAST), 0);
        Check.spikeA(x, 30);
        Check.due("no fallback at the sixth", x.fallback(), false);
        Check.due("one fast one", x.value(FAST), 1);
    }

    private static void modesThatDoNotFollowHaveNone() {
        for (int mode : new int[] {4, 6}) {
            ChamberPacer x = roomy(mode);
            for (int i = 0; i < 9; i++) {
                Check.due("A in mode " + mode, Check.spikeA(x, 20), 1);
            }
            Check.due("fallback in mode " + mode, x.fallback(), false);
            Check.due("the fast count in mode " + mode, x.value(FAST), 0);
        }
    }
}
