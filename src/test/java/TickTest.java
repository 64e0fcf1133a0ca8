/** Promise 2: when the chambers are sensed and paced, and how a tick tells it. */
public final class TickTest {
    private static final int A_SENSED = 1;
    private static final int V_SENSED = 2;
    private static final int A_PACED = 4;
    private static final int V_PACED = 8;

    public static void main(String[] args) {
        eachModePacesItsChambers();
        eachModeSensesItsChambers();
        theFirstCountsAreFromTimeZero();
        ventricularSenseHasRestAndBlank();
        atrialSenseHasRestAndShadow();
        shadowIsForModesLedByV();
        aCrossingIsOverTwoTicks();
        samplesAreTakenAsTheNearest();
        limitsAreThoseBeforeTheBoundary();
        otherRulesAreThoseBehindTheBoundary();
        delayAndUpperHoldVBack();
        anAtrialEventSparesTheAtrialPace();
        anAtrialEventBeforeAnyVentricularOneCounts();
        aSenseOfASparesItsPace();
        delayMayBeAllOfL();
        whatIsLongDueIsPacedAtOnce();
        aSecondSenseLeavesAvAlone();
        aSenseOfVSparesPaces();
        twoEventsInOneTick();
        Check.end();
    }

    /** Where, in 300 quiet ticks behind the first boundary, the mode paces. */
    private static void eachModePacesItsChambers() {
        for (int mode = 0; mode <= 7; mode++) {
            boolean isLedByA = mode == 1 || mode == 4;
            boolean pacesBoth = mode == 2 || mode == 6 || mode == 7;
            ChamberPacer x = Check.settled(0, mode);
            for (int n = 1; n <= 300; n++) {
                int want = 0;
                if (n % 100 == 85 && (isLedByA || pacesBoth)) {
                    want += A_PACED;
                }
                if (n % 100 == 0 && !isLedByA) {
                    want += V_PACED;
                }
                Check.due("mode " + mode + ", quiet tick " + n, x.tick(0, 0, 0), want);
            }
        }
    }

    private static void eachModeSensesItsChambers() {
        int[] ofA = {0, 0, 0, 0, A_SENSED, A_SENSED, A_SENSED, A_SENSED};
        int[] ofV = {0, 0, 0, V_SENSED, 0, V_SENSED, V_SENSED, V_SENSED};
        int[] ofBoth = {0, 0, 0, V_SENSED, A_SENSED, V_SENSED, V_SENSED, V_SENSED};
        for (int mode = 0; mode <= 7; mode++) {
            Check.due("A's spike in mode " + mode, Check.spikeA(Check.settled(0, mode), 60), ofA[mode]);
            Check.due("V's spike in mode " + mode, Check.spikeV(Check.settled(0, mode), 60), ofV[mode]);
            Check.due("both spikes in mode " + mode, Check.spikeBoth(Check.settled(0, mode), 60), ofBoth[mode]);
        }
    }

    private static void theFirstCountsAreFromTimeZero() {
        Check.due("V at 29 of a new object", Check.spikeV(new ChamberPacer(), 29), 0);
        Check.due("V at 30 of a new object", Check.spikeV(new ChamberPacer(), 30), V_SENSED);
        Check.due("A at 24 of a new object", Check.spikeA(new ChamberPacer(), 24), 0);
        Check.due("A at 25 of a new object", Check.spikeA(new ChamberPacer(), 25), A_SENSED);
        ChamberPacer x = new ChamberPacer();
        for (int n = 1; n <= 100; n++) {
            int want = n == 85 ? A_PACED : n == 100 ? V_PACED : 0;
            Check.due("quiet tick " + n + " of a new object", x.tick(0, 0, 0), want);
        }
    }

    private static void ventricularSenseHasRestAndBlank() {
        Check.due("V at 29 of REST V 30", Check.spikeV(Check.settled(), 29), 0);
        Check.due("V at 30 of REST V 30", Check.spikeV(Check.settled(), 30), V_SENSED);
        Check.due("V at 30 of REST V 31", Check.spikeV(Check.settled(5, 31), 30), 0);
        Check.due("V 3 behind a pace of A, BLANK 4", Check.spikeV(Check.settled(), 85 + 3), 0);
        Check.due("V 4 behind a pace of A, BLANK 4", Check.spikeV(Check.settled(), 85 + 4), V_SENSED);
        ChamberPacer x = Check.settled();
        Check.spikeA(x, 40);
        Check.due("V 1 behind a sense of A", x.tick(0, 50, 0), V_SENSED);
    }

    private static void atrialSenseHasRestAndShadow() {
        Check.due("A at 24 of SHADOW 25", Check.spikeA(Check.settled(), 24), 0);
        Check.due("A at 25 of SHADOW 25", Check.spikeA(Check.settled(), 25), A_SENSED);
        Check.due("A 44 behind itself, REST A 60", Check.spikeA(Check.settled(6, 60), 44), 0);
        Check.due("A 60 behind itself, REST A 60", Check.spikeA(Check.settled(6, 60), 45), A_SENSED);
        for (int apart = 19; apart <= 20; apart++) {
            ChamberPacer x = Check.settled(0, 6);
            Check.spikeA(x, 40);
            Check.due("A " + apart + " behind a sense, REST A 20", Check.spikeA(x, apart), apart == 20 ? A_SENSED : 0);
        }
    }

    private static void shadowIsForModesLedByV() {
        Check.due("mode 4 is not in V's shadow", Check.spikeA(Check.settled(0, 4), 5), A_SENSED);
        Check.due("mode 4 has REST A", Check.spikeA(Check.settled(0, 4), 4), 0);
        Check.due("mode 6 is in V's shadow", Check.spikeA(Check.settled(0, 6), 5), 0);
    }

    private static void aCrossingIsOverTwoTicks() {
        int[][] samplesAndAnswers = {{9, 0}, {10, A_SENSED}, {-9, 0}, {-10, A_SENSED}};
        for (int[] row : samplesAndAnswers) {
            ChamberPacer x = Check.settled();
            Check.quiet(x, 39);
            Check.due("A's sample " + row[0], x.tick(row[0], 0, 0), row[1]);
        }
        int[][] forV = {{19, 0}, {20, V_SENSED}, {-19, 0}, {-20, V_SENSED}};
        for (int[] row : forV) {
            ChamberPacer x = Check.settled();
            Check.quiet(x, 39);
            Check.due("V's sample " + row[0], x.tick(0, row[0], 0), row[1]);
        }
        ChamberPacer slope = Check.settled();
        Check.quiet(slope, 39);
        Check.due("5 over 0", slope.tick(5, 0, 0), 0);
        Check.due("10 over 0, two ticks before", slope.tick(10, 0, 0), A_SENSED);
        ChamberPacer saw = Check.settled();
        Check.due("a spike in the shadow", saw.tick(400, 0, 0), 0);
        for (int n = 2; n <= 40; n++) {
            Check.due("a saw of two ticks, " + n, saw.tick(n % 2 == 0 ? 0 : 400, 0, 0), 0);
        }
    }

    private static void samplesAreTakenAsTheNearest() {
        ChamberPacer x = Check.settled(0, 4, 9, 1);
        x.run(40, 1000, 0, 0);
        Check.due("A at 1001 over 1000", x.tick(1001, 0, 0), 0);
        Check.due("A at the greatest int over 1000", x.tick(Integer.MAX_VALUE, 0, 0), 0);
        Check.due("A at 999 over 1000", x.tick(999, 0, 0), A_SENSED);
        x.run(40, -1000, 0, 0);
        Check.due("A at -1001 over -1000", x.tick(-1001, 0, 0), 0);
        Check.due("A at the least int over -1000", x.tick(Integer.MIN_VALUE, 0, 0), 0);
        Check.due("A at -999 over -1000", x.tick(-999, 0, 0), A_SENSED);
        x.run(40, Integer.MIN_VALUE, 0, 0);
        Check.due("A from the least to the greatest", x.tick(Integer.MAX_VALUE, 0, 0), A_SENSED);
        ChamberPacer y = Check.settled(0, 3, 10, 1);
        y.run(40, 0, 1000, 0);
        Check.due("V at the greatest int over 1000", y.tick(0, Integer.MAX_VALUE, 0), 0);
        Check.due("V at the least int over 1000", y.tick(0, Integer.MIN_VALUE, 0), V_SENSED);
        y.run(40, 0, -1000, 0);
        Check.due("V at -1001 over -1000", y.tick(0, -1001, 0), 0);
    }

    private static void limitsAreThoseBeforeTheBoundary() {
        ChamberPacer x = Check.settled(0, 3);
        Check.ask(x, 0, 4, 9, 500);
        Check.due("A crossed by the old LIMIT A", Check.spikeBoth(x, 60), V_SENSED + A_SENSED);
        ChamberPacer y = Check.settled(0, 3, 9, 500);
        Check.ask(y, 0, 4, 9, 10);
        Check.due("A did not cross by the old LIMIT A", Check.spikeBoth(y, 60), V_SENSED);
    }

    private static void otherRulesAreThoseBehindTheBoundary() {
        ChamberPacer x = Check.settled(0, 3, 6, 60);
        Check.ask(x, 0, 4, 6, 5);
        Check.due("A by the new REST A 5", Check.spikeBoth(x, 40), V_SENSED + A_SENSED);
        ChamberPacer y = Check.settled(0, 3);
        Check.ask(y, 0, 4, 6, 60);
        Check.due("A by the new REST A 60", Check.spikeBoth(y, 40), V_SENSED);
        ChamberPacer z = Check.settled(0, 4);
        Check.ask(z, 0, 3);
        Check.due("V is not sensed behind A", Check.spikeBoth(z, 60), A_SENSED);
    }

    private static void delayAndUpperHoldVBack() {
        for (int mode = 5; mode <= 7; mode += 2) {
            pacesVAt("DELAY behind a sense", Check.settled(0, mode), 40, 55);
            pacesVAt("UPPER is later than DELAY", Check.settled(0, mode), 30, 50);
            pacesVAt("DELAY and UPPER at once", Check.settled(0, mode), 35, 50);
            pacesVAt("DELAY 30", Check.settled(0, mode, 3, 30), 40, 70);
            pacesVAt("DELAY 5, UPPER 20", Check.settled(0, mode, 3, 5, 2, 20), 25, 30);
            pacesVAt("L is before UPPER", Check.settled(0, mode, 1, 60, 2, 120, 3, 5), 50, 60);
            pacesVAt("L is before DELAY", Check.settled(0, mode, 1, 60), 44, 59);
        }
        pacesVAt("mode 6 does not follow", Check.settled(0, 6), 40, 100);
        ChamberPacer x = Check.settled(3, 30);
        Check.quiet(x, 69);
        Check.due("A is paced DELAY before L", x.tick(0, 0, 0), A_PACED);
        Check.quiet(x, 29);
        Check.due("V is paced DELAY behind A", x.tick(0, 0, 0), V_PACED);
        ChamberPacer y = Check.settled(1, 30, 2, 120, 3, 5);
        Check.quiet(y, 24);
        Check.due("A is paced 5 before L 30", y.tick(0, 0, 0), A_PACED);
        Check.quiet(y, 4);
        Check.due("V is paced by L, UPPER or not", y.tick(0, 0, 0), V_PACED);
    }

    private static void pacesVAt(String what, ChamberPacer x, int sensedAt, int pacedAt) {
        Check.due(what + ": A", Check.spikeA(x, sensedAt), A_SENSED);
        Check.due(what + ": before", Check.quiet(x, pacedAt - sensedAt - 1), 0);
        Check.due(what + ": V at " + pacedAt, x.tick(0, 0, 0), V_PACED);
    }

    private static void anAtrialEventSparesTheAtrialPace() {
        ChamberPacer x = Check.settled(0, 6);
        Check.spikeA(x, 30);
        Check.due("no pace of A behind its sense", Check.quiet(x, 69), 0);
        Check.due("V alone", x.tick(0, 0, 0), V_PACED);
        Check.quiet(x, 84);
        Check.due("A again in the next cycle", x.tick(0, 0, 0), A_PACED);
        ChamberPacer y = Check.settled();
        Check.quiet(y, 85);
        Check.due("V sensed behind A's pace", Check.spikeV(y, 5), V_SENSED);
        Check.quiet(y, 84);
        Check.due("A is paced L - DELAY behind V's sense", y.tick(0, 0, 0), A_PACED);
    }

    private static void anAtrialEventBeforeAnyVentricularOneCounts() {
        ChamberPacer x = new ChamberPacer();
        Check.due("A sensed in the first cycle", Check.spikeA(x, 80), A_SENSED);
        Check.due("A is not paced at 85", Check.quiet(x, 14), 0);
        Check.due("V is paced DELAY behind A", x.tick(0, 0, 0), V_PACED);
    }

    private static void aSenseOfASparesItsPace() {
        for (int mode = 6; mode <= 7; mode++) {
            ChamberPacer x = Check.settled(0, mode);
            Check.due("A's sense where A is due", Check.spikeA(x, 85), A_SENSED);
            Check.due("none before V", Check.quiet(x, 14), 0);
            Check.due("V is paced at L", x.tick(0, 0, 0), V_PACED);
        }
        ChamberPacer y = Check.settled(0, 4);
        Check.due("A's sense where A, leading, is due", Check.spikeA(y, 85), A_SENSED);
    }

    private static void delayMayBeAllOfL() {
        ChamberPacer x = Check.settled(0, 6, 1, 30, 3, 30, 5, 10);
        Check.due("L - DELAY is 0: A at once", x.tick(0, 0, 0), A_PACED);
        Check.due("none before L", Check.quiet(x, 28), 0);
        Check.due("V at L, A not in the same tick", x.tick(0, 0, 0), V_PACED);
        Check.due("A at once", x.tick(0, 0, 0), A_PACED);
        Check.due("V's sense spares A's pace", Check.spikeV(x, 15), V_SENSED);
        Check.due("A in the next tick", x.tick(0, 0, 0), A_PACED);
        ChamberPacer y = Check.settled(0, 2, 1, 30, 3, 30, 11, 1, 12, 25);
        Check.steady(y, 780, 255);
        for (int left = 30; left > 0 && y.since(1) != 0; left--) {
            y.tick(0, 0, 255);
        }
        Check.due("L is less than DELAY", y.value(0), 26);
        Check.due("L - DELAY is below 0: A at once", y.tick(0, 0, 255), A_PACED);
        Check.due("none before L", Check.steady(y, 24, 255), 0);
        Check.due("V at L", y.tick(0, 0, 255), V_PACED);
    }

    private static void whatIsLongDueIsPacedAtOnce() {
        ChamberPacer x = Check.settled(0, 0);
        Check.quiet(x, 200);
        x.program(0, 1);
        Check.quiet(x, 99);
        Check.due("V's pace puts mode 1 in force", x.tick(0, 0, 0), V_PACED);
        Check.due("A, 316 behind its last pace", x.tick(0, 0, 0), A_PACED);
        x.program(0, 0);
        Check.quiet(x, 99);
        Check.due("A's pace puts mode 0 in force, V is 101 behind", x.tick(0, 0, 0), A_PACED + V_PACED);
    }

    private static void aSecondSenseLeavesAvAlone() {
        ChamberPacer x = Check.settled(1, 200, 2, 80, 3, 30);
        Check.spikeA(x, 55);
        Check.due("a second sense", Check.spikeA(x, 20), A_SENSED);
        Check.due("AV goes on", x.since(3), 20);
        Check.due("none before", Check.quiet(x, 9), 0);
        Check.due("V 30 behind the first", x.tick(0, 0, 0), V_PACED);
    }

    private static void aSenseOfVSparesPaces() {
        ChamberPacer x = Check.settled(0, 6);
        Check.due("V's sense where A is due", Check.spikeV(x, 85), V_SENSED);
        ChamberPacer y = Check.settled(0, 6);
        Check.due("V's sense where V is due", Check.spikeV(y, 100), V_SENSED);
        ChamberPacer z = Check.settled(0, 3);
        Check.ask(z, 0, 1);
        Check.due("V's sense, A being due by the new mode", Check.spikeV(z, 90), V_SENSED);
        Check.due("A in the next tick", z.tick(0, 0, 0), A_PACED);
    }

    private static void twoEventsInOneTick() {
        ChamberPacer x = Check.settled(0, 1);
        Check.quiet(x, 85);
        Check.ask(x, 0, 2);
        Check.quiet(x, 99);
        Check.due("both paced, V by the new mode", x.tick(0, 0, 0), A_PACED + V_PACED);
        ChamberPacer y = Check.settled(0, 6, 6, 5);
        Check.due("A sensed, V paced", Check.spikeA(y, 100), A_SENSED + V_PACED);
        ChamberPacer z = Check.settled(0, 4);
        Check.quiet(z, 85);
        Check.ask(z, 0, 0);
        Check.due("A sensed, V paced by the new mode", Check.spikeA(z, 30), A_SENSED + V_PACED);
        ChamberPacer u = Check.settled(0, 4);
        Check.quiet(u, 85);
        Check.ask(u, 0, 6, 1, 200);
        Check.due("A sensed, the new L is not reached", Check.spikeA(u, 30), A_SENSED);
        ChamberPacer w = Check.settled(0, 1);
        Check.ask(w, 0, 0, 1, 86);
        Check.quiet(w, 84);
        Check.due("A paced, V not at 85 of 86", w.tick(0, 0, 0), A_PACED);
        Check.due("V at 86", w.tick(0, 0, 0), V_PACED);
    }
}
