/** Promise 9: SINCE A, V and P, and AV. */
public final class SinceTest {
    private static final int A = 0;
    private static final int V = 1;
    private static final int P = 2;
    private static final int AV = 3;

    public static void main(String[] args) {
        eventsBeginThemAnew();
        avRunsFromAToV();
        avDoesNotRunWithoutCause();
        theyGrowTo1000();
        eventsBeginThemAnewFrom1000();
        otherNumbersAnswerNone();
        Check.end();
    }

    private static void are(String what, ChamberPacer x, int a, int v, int p, int av) {
        Check.due(what + ": SINCE A", x.since(A), a);
        Check.due(what + ": SINCE V", x.since(V), v);
        Check.due(what + ": SINCE P", x.since(P), p);
        Check.due(what + ": AV", x.since(AV), av);
    }

    private static void eventsBeginThemAnew() {
        ChamberPacer x = new ChamberPacer();
        x.tick(0, 0, 0);
        are("the first tick", x, 1, 1, 1, ChamberPacer.NONE);
        Check.quiet(x, 84);
        are("A paced", x, 0, 85, 0, 0);
        Check.quiet(x, 14);
        are("before V", x, 14, 99, 14, 14);
        x.tick(0, 0, 0);
        are("V paced", x, 15, 0, 15, ChamberPacer.NONE);
        Check.spikeA(x, 40);
        are("A sensed", x, 0, 40, 55, 0);
        Check.spikeV(x, 5);
        are("V sensed", x, 5, 0, 60, ChamberPacer.NONE);
    }

    private static void avRunsFromAToV() {
        ChamberPacer x = Check.settled(0, 5, 2, 120, 1, 200);
        Check.spikeA(x, 40);
        Check.due("AV at the sense", x.since(AV), 0);
        Check.quiet(x, 79);
        Check.due("AV while UPPER holds V back", x.since(AV), 79);
        x.tick(0, 0, 0);
        Check.due("AV at the pace of V", x.since(AV), ChamberPacer.NONE);
        ChamberPacer y = Check.settled(0, 2);
        Check.quiet(y, 90);
        Check.due("AV behind a pace, in mode 2", y.since(AV), 5);
        ChamberPacer z = Check.settled(0, 6);
        Check.quiet(z, 90);
        Check.due("AV behind a pace, in mode 6", z.since(AV), 5);
    }

    private static void avDoesNotRunWithoutCause() {
        ChamberPacer x = Check.settled(0, 6);
        Check.spikeA(x, 40);
        Check.due("a sense in mode 6", x.since(AV), ChamberPacer.NONE);
        ChamberPacer y = Check.settled(0, 1);
        Check.quiet(y, 85);
        are("a pace in mode 1", y, 0, 85, 0, ChamberPacer.NONE);
        ChamberPacer z = Check.settled(0, 4);
        Check.spikeA(z, 60);
        are("a sense in mode 4", z, 0, 60, 75, ChamberPacer.NONE);
        ChamberPacer u = Check.settled(0, 4);
        u.program(0, 7);
        Check.spikeA(u, 60);
        Check.due("a sense in mode 4 that puts mode 7 in force", u.since(AV), ChamberPacer.NONE);
        ChamberPacer w = Check.settled(0, 1);
        w.program(0, 2);
        Check.quiet(w, 85);
        Check.due("a pace in mode 1 that puts mode 2 in force", w.since(AV), ChamberPacer.NONE);
    }

    private static void theyGrowTo1000() {
        ChamberPacer x = Check.settled(0, 0);
        Check.quiet(x, 984);
        Check.due("SINCE A at 999", x.since(A), 999);
        Check.due("SINCE P at 999", x.since(P), 999);
        x.tick(0, 0, 0);
        Check.due("SINCE A at 1000", x.since(A), 1000);
        Check.due("SINCE P at 1000", x.since(P), 1000);
        x.tick(0, 0, 0);
        Check.due("SINCE A at most", x.since(A), 1000);
        Check.due("SINCE P at most", x.since(P), 1000);
        ChamberPacer y = Check.settled(0, 1);
        Check.quiet(y, 999);
        Check.due("SINCE V at 999", y.since(V), 999);
        y.tick(0, 0, 0);
        Check.due("SINCE V at 1000", y.since(V), 1000);
        y.tick(0, 0, 0);
        Check.due("SINCE V at most", y.since(V), 1000);
    }

    private static void eventsBeginThemAnewFrom1000() {
        ChamberPacer x = Check.settled(0, 0);
        Check.quiet(x, 1200);
        x.program(0, 1);
        Check.quiet(x, 100);
        are("V paced for the last time", x, 1000, 0, 1000, ChamberPacer.NONE);
        x.tick(0, 0, 0);
        are("A paced for the first time", x, 0, 1, 0, ChamberPacer.NONE);
        Check.quiet(x, 1100);
        x.program(0, 2);
        Check.quiet(x, 99);
        are("before both", x, 99, 1000, 99, ChamberPacer.NONE);
        x.tick(0, 0, 0);
        are("both paced", x, 0, 0, 0, ChamberPacer.NONE);
    }

    private static void otherNumbersAnswerNone() {
        ChamberPacer x = Check.settled();
        for (int which : new int[] {-1, 4, 5, Integer.MIN_VALUE, Integer.MAX_VALUE}) {
            Check.due("since(" + which + ")", x.since(which), ChamberPacer.NONE);
        }
    }
}
