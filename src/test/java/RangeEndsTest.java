/** Terms, PARAMETERS: each does its work at the least and at the most of its range. */
public final class RangeEndsTest {
    private static final int A_SENSED = 1;
    private static final int V_SENSED = 2;
    private static final int A_PACED = 4;
    private static final int V_PACED = 8;

    public static void main(String[] args) {
        lower();
        upper();
        delay();
        shadow();
        restV();
        restA();
        blank();
        waitBehindASense();
        limits();
        rate();
        fastest();
        quick();
        Check.end();
    }

    /** The n-th quiet tick from here answers what is due, and there is no pace before it. */
    private static void nothingUntil(String what, ChamberPacer x, int n, int want) {
        Check.due(what + ": before", Check.quiet(x, n - 1), 0);
        Check.due(what + ": tick " + n, x.tick(0, 0, 0), want);
    }

    private static void lower() {
        nothingUntil("LOWER 30", Check.settled(0, 0, 1, 30), 30, V_PACED);
        nothingUntil("LOWER 200", Check.settled(0, 0, 1, 200), 200, V_PACED);
        nothingUntil("LOWER 30 in mode 4", Check.settled(0, 4, 1, 30), 15, A_PACED);
        nothingUntil("LOWER 200 in mode 4", Check.settled(0, 4, 1, 200), 185, A_PACED);
    }

    private static void upper() {
        ChamberPacer least = Check.settled(0, 5, 2, 20, 3, 5, 4, 10);
        Check.due("UPPER 20", Check.spikeA(least, 12), A_SENSED);
        nothingUntil("UPPER 20", least, 8, V_PACED);
        ChamberPacer most = Check.settled(0, 5, 1, 200, 2, 120);
        Check.due("UPPER 120", Check.spikeA(most, 40), A_SENSED);
        nothingUntil("UPPER 120", most, 80, V_PACED);
    }

    private static void delay() {
        ChamberPacer least = Check.settled(0, 5, 3, 5);
        Check.due("DELAY 5", Check.spikeA(least, 60), A_SENSED);
        nothingUntil("DELAY 5", least, 5, V_PACED);
        ChamberPacer most = Check.settled(0, 5, 3, 30);
        Check.due("DELAY 30", Check.spikeA(most, 60), A_SENSED);
        nothingUntil("DELAY 30", most, 30, V_PACED);
        nothingUntil("DELAY 5 before L", Check.settled(0, 2, 3, 5), 95, A_PACED);
        nothingUntil("DELAY 30 before L", Check.settled(0, 2, 3, 30), 70, A_PACED);
    }

    private static void shadow() {
        Check.due("A at 9 of SHADOW 10", Check.spikeA(Check.settled(4, 10), 9), 0);
        Check.due("A at 10 of SHADOW 10", Check.spikeA(Check.settled(4, 10), 10), A_SENSED);
        Check.due("A at 59 of SHADOW 60", Check.spikeA(Check.settled(4, 60), 59), 0);
        Check.due("A at 60 of SHADOW 60", Check.spikeA(Check.settled(4, 60), 60), A_SENSED);
    }

    private static void restV() {
        Check.due("V at 9 of REST V 10", Check.spikeV(Check.settled(5, 10), 9), 0);
        Check.due("V at 10 of REST V 10", Check.spikeV(Check.settled(5, 10), 10), V_SENSED);
        Check.due("V at 59 of REST V 60", Check.spikeV(Check.settled(5, 60), 59), 0);
        Check.due("V at 60 of REST V 60", Check.spikeV(Check.settled(5, 60), 60), V_SENSED);
    }

    private static void restA() {
        for (int rest : new int[] {5, 60}) {
            Check.due("A below REST A " + rest, secondSenseOfA(rest, rest - 1), 0);
            Check.due("A at REST A " + rest, secondSenseOfA(rest, rest), A_SENSED);
        }
    }

    private static int secondSenseOfA(int rest, int apart) {
        ChamberPacer x = Check.settled(0, 4, 6, rest);
        Check.due("a first sense", Check.spikeA(x, 80), A_SENSED);
        return Check.spikeA(x, apart);
    }

    private static void blank() {
        Check.due("V 1 behind a pace of A, BLANK 0", Check.spikeV(Check.settled(7, 0), 86), V_SENSED);
        Check.due("V 1 behind a pace of A, BLANK 1", Check.spikeV(Check.settled(7, 1), 86), V_SENSED);
        Check.due("V 1 behind a pace of A, BLANK 2", Check.spikeV(Check.settled(7, 2), 86), 0);
        Check.due("V 9 behind a pace of A, BLANK 10", Check.spikeV(Check.settled(7, 10), 94), 0);
        Check.due("V 10 behind a pace of A, BLANK 10", Check.spikeV(Check.settled(7, 10), 95), V_SENSED);
    }

    private static void waitBehindASense() {
        ChamberPacer none = Check.settled(0, 3, 8, 0);
        Check.spikeV(none, 60);
        nothingUntil("WAIT 0", none, 100, V_PACED);
        ChamberPacer most = Check.settled(0, 3, 1, 200, 8, 60);
        Check.spikeV(most, 60);
        nothingUntil("WAIT 60", most, 260, V_PACED);
        nothingUntil("no WAIT behind a pace", most, 200, V_PACED);
    }

    private static void limits() {
        int[][] limitDifferenceAndSense = {{1, 0, 0}, {1, 1, 1}, {1, -1, 1}, {500, 499, 0}, {500, 500, 1}, {500, -500, 1}};
        for (int[] row : limitDifferenceAndSense) {
            ChamberPacer x = Check.settled(9, row[0], 10, row[0]);
            Check.quiet(x, 39);
            Check.due("LIMIT A " + row[0] + " at " + row[1], x.tick(row[1], 0, 0), row[2] * A_SENSED);
            ChamberPacer y = Check.settled(9, row[0], 10, row[0]);
            Check.quiet(y, 39);
            Check.due("LIMIT V " + row[0] + " at " + row[1], y.tick(0, row[1], 0), row[2] * V_SENSED);
        }
    }

    private static void rate() {
        ChamberPacer off = new ChamberPacer();
        ChamberPacer on = new ChamberPacer();
        off.program(11, 0);
        on.program(11, 1);
        Check.steady(off, 100, 255);
        Check.steady(on, 100, 255);
        Check.due("L with RATE 0", off.value(0), 100);
        Check.due("L with RATE 1", on.value(0), 96);
    }

    /** Behind enough cycles with the most activity, whose level is 4073 of 4080. */
    private static void fastest() {
        int[][] lowerFastestAndInterval = {{30, 25, 26}, {200, 25, 26}, {30, 150, 149}, {200, 150, 151}};
        for (int[] row : lowerFastestAndInterval) {
            ChamberPacer x = Check.settled(0, 0, 1, row[0], 12, row[1]);
            Check.steady(x, 6000, 255);
            Check.due("the interval with LOWER " + row[0] + ", FASTEST " + row[1], x.value(1), row[2]);
        }
    }

    private static void quick() {
        int[][] quickApartAndFast = {{10, 9, 1}, {10, 10, 0}, {60, 59, 1}, {60, 60, 0}};
        for (int[] row : quickApartAndFast) {
            ChamberPacer x = Check.settled(0, 5, 1, 200, 2, 120, 6, 5, 13, row[0]);
            Check.spikeA(x, 45);
            Check.due("a first sense is slow", x.value(4), 1);
            Check.due("a second sense", Check.spikeA(x, row[1]), A_SENSED);
            Check.due("QUICK " + row[0] + ", fast at " + row[1], x.value(3), row[2]);
            Check.due("QUICK " + row[0] + ", slow at " + row[1], x.value(4), row[2] == 1 ? 0 : 2);
        }
    }
}
