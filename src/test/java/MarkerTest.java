/** Promise 12: the latest 12 markers, with their times. */
public final class MarkerTest {
    public static void main(String[] args) {
        eventsAreKept();
        twelveAreKept();
        markersOfOneTickAreInOrder();
        puttingInForceIsKept();
        otherNumbersAnswerNone();
        Check.end();
    }

    private static void is(ChamberPacer x, int k, int kind, int time) {
        Check.due("the kind of marker " + k, x.marker(k, 0), kind);
        Check.due("the time of marker " + k, x.marker(k, 1), time);
    }

    private static void eventsAreKept() {
        ChamberPacer x = new ChamberPacer();
        is(x, 0, ChamberPacer.NONE, ChamberPacer.NONE);
        Check.quiet(x, 100);
        Check.spikeA(x, 40);
        Check.spikeV(x, 10);
        is(x, 0, 1, 150);
        is(x, 1, 0, 140);
        is(x, 2, 3, 100);
        is(x, 3, 2, 85);
        is(x, 4, ChamberPacer.NONE, ChamberPacer.NONE);
    }

    private static void twelveAreKept() {
        for (int events = 0; events <= 37; events++) {
            ChamberPacer x = new ChamberPacer();
            Check.quiet(x, timeOf(events));
            int kept = Math.min(12, events);
            for (int k = 0; k < kept; k++) {
                is(x, k, (events - k) % 2 == 0 ? 3 : 2, timeOf(events - k));
            }
            is(x, kept, ChamberPacer.NONE, ChamberPacer.NONE);
        }
    }

    /** When the n-th event of a quiet pacer is: A is paced at 85, V at 100 of each cycle. */
    private static int timeOf(int n) {
        return n % 2 == 0 ? 50 * n : 50 * (n - 1) + 85;
    }

    private static void markersOfOneTickAreInOrder() {
        ChamberPacer x = Check.settled(0, 3);
        x.program(0, 4);
        Check.spikeBoth(x, 60);
        is(x, 0, 0, 160);
        is(x, 1, 6, 160);
        is(x, 2, 1, 160);
        is(x, 3, 6, 100);
        ChamberPacer y = Check.settled(0, 1);
        Check.quiet(y, 85);
        y.program(0, 2);
        Check.quiet(y, 100);
        is(y, 0, 3, 285);
        is(y, 1, 6, 285);
        is(y, 2, 2, 285);
    }

    private static void puttingInForceIsKept() {
        ChamberPacer x = Check.settled(1, 100);
        is(x, 0, 6, 100);
        is(x, 1, 3, 100);
        Check.quiet(x, 100);
        is(x, 0, 3, 200);
        Check.ask(x, 1, 110, 2, 60, 3, 20);
        Check.quiet(x, 100);
        is(x, 0, 6, 300);
        is(x, 1, 3, 300);
    }

    private static void otherNumbersAnswerNone() {
        noneWhereThereIsNone();
        ChamberPacer x = new ChamberPacer();
        Check.quiet(x, 1000);
        for (int which = 0; which <= 1; which++) {
            for (int k : new int[] {-1, 12, 13, Integer.MIN_VALUE, Integer.MAX_VALUE}) {
                Check.due("marker(" + k + ", " + which + ")", x.marker(k, which), ChamberPacer.NONE);
            }
        }
        for (int which : new int[] {-1, 2, 3, Integer.MIN_VALUE, Integer.MAX_VALUE}) {
            Check.due("marker(0, " + which + ")", x.marker(0, which), ChamberPacer.NONE);
        }
    }

    private static void noneWhereThereIsNone() {
        ChamberPacer x = new ChamberPacer();
        for (int k : new int[] {-1, 0, 1, 11, 12}) {
            for (int which = -1; which <= 2; which++) {
                Check.due("of a new object, marker(" + k + ", " + which + ")", x.marker(k, which), ChamberPacer.NONE);
            }
        }
    }
}
