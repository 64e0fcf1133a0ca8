/** Promise 6: the cell's status, and what is pending when it is empty. */
public final class BatteryTest {
    public static void main(String[] args) {
        readingsStandForAStatus();
        theStatusNeverFalls();
        anEmptyCellAsksForSafety();
        itAsksOnce();
        itAsksWhateverTheStatusWas();
        theSameReadingChangesNothing();
        Check.end();
    }

    private static void readingsStandForAStatus() {
        int[][] readingsAndStatus = {
            {Integer.MAX_VALUE, 0}, {281, 0}, {280, 0}, {279, 1}, {250, 1}, {249, 2}, {220, 2},
            {219, 3}, {0, 3}, {-1, 3}, {Integer.MIN_VALUE, 3}};
        for (int[] row : readingsAndStatus) {
            Check.due("reading " + row[0], new ChamberPacer().battery(row[0]), row[1]);
        }
    }

    private static void theStatusNeverFalls() {
        ChamberPacer x = new ChamberPacer();
        int[][] readingsAndStatus = {
            {300, 0}, {260, 1}, {300, 1}, {230, 2}, {260, 2}, {300, 2}, {100, 3}, {230, 3}, {260, 3}, {300, 3}};
        for (int[] row : readingsAndStatus) {
            Check.due("then " + row[0], x.battery(row[0]), row[1]);
        }
    }

    private static void anEmptyCellAsksForSafety() {
        ChamberPacer x = Check.settled(0, 6, 1, 150, 8, 20, 11, 1);
        Check.ask(x, 0, 5, 2, 60, 13, 40);
        x.battery(220);
        Check.due("what was pending still is", x.waiting(2), 60);
        x.battery(219);
        int[] waiting = {3, 100, -1, -1, -1, -1, -1, -1, 0, -1, -1, 0, -1, -1};
        for (int k = 0; k < waiting.length; k++) {
            Check.due("waiting(" + k + ")", x.waiting(k), waiting[k]);
        }
        Check.due("MODE is not yet in force", x.parameter(0), 6);
        Check.spikeV(x, 60);
        int[] inForce = {3, 100, 50, 15, 25, 30, 20, 4, 0, 10, 20, 0, 50, 25};
        for (int k = 0; k < inForce.length; k++) {
            Check.due("parameter(" + k + ")", x.parameter(k), inForce[k]);
        }
        Check.due("L without WAIT", x.value(0), 100);
        Check.due("the marker of what was put in force", x.marker(0, 0), 6);
    }

    private static void itAsksOnce() {
        ChamberPacer x = new ChamberPacer();
        x.battery(100);
        Check.quiet(x, 100);
        Check.due("put in force", x.parameter(0), 3);
        x.battery(100);
        x.battery(300);
        x.battery(Integer.MIN_VALUE);
        Check.nothingWaits("asked once", x);
    }

    private static void itAsksWhateverTheStatusWas() {
        for (int reading : new int[] {280, 279, 249}) {
            ChamberPacer x = new ChamberPacer();
            x.battery(reading);
            Check.nothingWaits("not yet at " + reading, x);
            x.battery(219);
            Check.due("MODE waits behind " + reading, x.waiting(0), 3);
            Check.due("LOWER waits behind " + reading, x.waiting(1), 100);
            Check.due("WAIT waits behind " + reading, x.waiting(8), 0);
            Check.due("RATE waits behind " + reading, x.waiting(11), 0);
        }
    }

    /** Pending parameters go with the cell's becoming empty alone. */
    private static void theSameReadingChangesNothing() {
        ChamberPacer x = new ChamberPacer();
        x.battery(220);
        Check.ask(x, 2, 60);
        Check.due("status 2 again", x.battery(220), 2);
        Check.due("what is pending stays", x.waiting(2), 60);
        ChamberPacer y = new ChamberPacer();
        y.battery(0);
        int[] before = Check.state(y);
        Check.due("status 3 again", y.battery(0), 3);
        Check.same("what is asked for stays", Check.state(y), before);
    }
}
