/** Promise 13: the cycles by their ticks. */
public final class HistogramTest {
    public static void main(String[] args) {
        theFirstCycleIsFromTimeZero();
        cyclesAreInTheirBins();
        theLeadingChamberEndsACycle();
        aCycleMayHaveNoTick();
        otherNumbersAnswerNone();
        Check.end();
    }

    private static void are(String what, ChamberPacer x, int... want) {
        for (int bin = 0; bin < want.length; bin++) {
            Check.due(what + ": bin " + bin, x.histogram(bin), want[bin]);
        }
    }

    private static void theFirstCycleIsFromTimeZero() {
        ChamberPacer x = new ChamberPacer();
        Check.due("V is sensed", Check.spikeV(x, 74), 2);
        are("a first cycle of 74", x, 0, 0, 1, 0, 0, 0, 0, 0);
        ChamberPacer y = new ChamberPacer();
        Check.due("V is sensed", Check.spikeV(y, 75), 2);
        are("a first cycle of 75", y, 0, 0, 0, 1, 0, 0, 0, 0);
    }

    private static void cyclesAreInTheirBins() {
        ChamberPacer x = Check.settled(0, 3, 1, 200, 5, 10, 8, 60);
        are("the first cycle", x, 0, 0, 0, 0, 1, 0, 0, 0);
        int[] want = {0, 0, 0, 0, 1, 0, 0, 0};
        int[][] ticksAndBin = {
            {10, 0}, {24, 0}, {25, 1}, {49, 1}, {50, 2}, {74, 2}, {75, 3}, {99, 3}, {100, 4}, {124, 4},
            {125, 5}, {149, 5}, {150, 6}, {174, 6}, {175, 7}, {199, 7}, {200, 7}, {259, 7}};
        for (int[] row : ticksAndBin) {
            Check.due("V is sensed", Check.spikeV(x, row[0]), 2);
            want[row[1]]++;
            are("a cycle of " + row[0], x, want);
        }
        Check.due("V is paced", Check.quiet(x, 260), 1);
        want[7]++;
        are("a cycle of 260", x, want);
    }

    private static void theLeadingChamberEndsACycle() {
        ChamberPacer x = Check.settled(0, 4);
        Check.quiet(x, 85);
        are("from V's pace to A's", x, 0, 0, 0, 1, 1, 0, 0, 0);
        Check.spikeA(x, 30);
        are("from A's pace to A's sense", x, 0, 1, 0, 1, 1, 0, 0, 0);
        ChamberPacer y = Check.settled(0, 6);
        Check.spikeA(y, 30);
        are("A does not lead", y, 0, 0, 0, 0, 1, 0, 0, 0);
    }

    private static void aCycleMayHaveNoTick() {
        ChamberPacer x = Check.settled(0, 3);
        x.program(0, 4);
        Check.due("V leads, then A", Check.spikeBoth(x, 60), 3);
        are("60 ticks, then none", x, 1, 0, 1, 0, 1, 0, 0, 0);
    }

    private static void otherNumbersAnswerNone() {
        ChamberPacer x = Check.settled();
        for (int bin : new int[] {-1, 8, 9, Integer.MIN_VALUE, Integer.MAX_VALUE}) {
            Check.due("histogram(" + bin + ")", x.histogram(bin), ChamberPacer.NONE);
        }
    }
}
