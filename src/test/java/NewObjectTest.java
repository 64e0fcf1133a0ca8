/** Promise 1: parameters as at first, time 0, and all else that the terms say of the first moment. */
public final class NewObjectTest {
    public static void main(String[] args) {
        ChamberPacer used = Check.settled(0, 3, 1, 40);
        used.battery(0);
        used.receive(126);
        isAsAtFirst(new ChamberPacer());
        aFrameIsNotHalfReceived();
        theStatusIsZero();
        Check.end();
    }

    private static void isAsAtFirst(ChamberPacer x) {
        for (int k = 0; k < Check.AT_FIRST.length; k++) {
            Check.due("parameter " + k, x.parameter(k), Check.AT_FIRST[k]);
            Check.due("waiting " + k, x.waiting(k), ChamberPacer.NONE);
        }
        int[] since = {0, 0, 0, ChamberPacer.NONE};
        for (int which = 0; which < since.length; which++) {
            Check.due("since " + which, x.since(which), since[which]);
        }
        int[] values = {100, 100, 0, 0, 0, 0};
        for (int which = 0; which < values.length; which++) {
            Check.due("value " + which, x.value(which), values[which]);
        }
        for (int bin = 0; bin < 8; bin++) {
            Check.due("histogram " + bin, x.histogram(bin), 0);
        }
        for (int k = 0; k < 12; k++) {
            Check.due("kind of marker " + k, x.marker(k, 0), ChamberPacer.NONE);
            Check.due("time of marker " + k, x.marker(k, 1), ChamberPacer.NONE);
        }
        Check.due("fallback", x.fallback(), false);
    }

    private static void aFrameIsNotHalfReceived() {
        ChamberPacer x = new ChamberPacer();
        Check.due("the first frame", Check.frame(x, 2, 1, 0), 100);
    }

    private static void theStatusIsZero() {
        Check.due("a full cell's reading", new ChamberPacer().battery(280), 0);
    }
}
