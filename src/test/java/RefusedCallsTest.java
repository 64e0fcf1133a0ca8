/** A call that throws, or that answers that it did nothing, changes nothing, now and later. */
public final class RefusedCallsTest {
    private static final int[] EXTREMES = {Integer.MIN_VALUE, -1, Integer.MAX_VALUE};

    /** What is done to a pacer and is to leave it as it was. */
    private interface Refused {
        void call(ChamberPacer x);
    }

    public static void main(String[] args) {
        programWithWrongArguments();
        programWithAnEmptyCell();
        runOfAnotherLength();
        framesThatAreRefused();
        numbersThatStandForNothing();
        Check.end();
    }

    /** In fallback, with parameters pending, markers of every kind but 5, and half a frame received. */
    private static ChamberPacer busy() {
        ChamberPacer x = Check.settled(0, 7, 1, 200, 2, 120, 4, 10, 6, 5, 8, 40, 13, 60);
        Check.spikeV(x, 60);
        for (int i = 0; i < 6; i++) {
            Check.spikeA(x, 15);
        }
        Check.due("in fallback", x.fallback(), true);
        Check.ask(x, 0, 6, 1, 90, 11, 1);
        x.battery(230);
        Check.steady(x, 5, 255);
        Check.bytes(x, 1, 126, 1, 9);
        return x;
    }

    /** As busy, but the cell is empty. */
    private static ChamberPacer exhausted() {
        ChamberPacer x = busy();
        x.battery(219);
        return x;
    }

    private static void changesNothing(String what, ChamberPacer x, ChamberPacer twin, Refused refused) {
        int[] before = Check.state(x);
        refused.call(x);
        Check.same(what + ": at once", Check.state(x), before);
        goOn(x);
        goOn(twin);
        Check.same(what + ": later", Check.state(x), Check.state(twin));
        Check.due(what + ": the status", x.battery(300), twin.battery(300));
    }

    /** Ends the half frame, and crosses and paces both chambers over some cycles. */
    private static void goOn(ChamberPacer x) {
        Check.bytes(x, 1, 44, Check.sum(1, 9, 1, 44));
        x.tick(3, 3, 100);
        Check.spikeA(x, 20);
        Check.spikeV(x, 40);
        Check.steady(x, 300, 90);
    }

    private static void programWithWrongArguments() {
        changesNothing("no such parameter", busy(), busy(), x -> {
            for (int number : new int[] {-1, 14, 255, Integer.MIN_VALUE, Integer.MAX_VALUE}) {
                Check.programRefuses(x, number, 1, IllegalArgumentException.class);
            }
        });
        changesNothing("a value too small or too large", busy(), busy(), x -> {
            for (int number = 0; number < 14; number++) {
                Check.programRefuses(x, number, Check.LEAST[number] - 1, IllegalArgumentException.class);
                Check.programRefuses(x, number, Check.MOST[number] + 1, IllegalArgumentException.class);
            }
        });
    }

    private static void programWithAnEmptyCell() {
        changesNothing("an empty cell", exhausted(), exhausted(), x -> {
            for (int number = 0; number < 14; number++) {
                Check.programRefuses(x, number, Check.LEAST[number], IllegalStateException.class);
                Check.programRefuses(x, number, Check.MOST[number], IllegalStateException.class);
            }
        });
        changesNothing("an empty cell and a wrong value", exhausted(), exhausted(), x -> {
            Check.programRefuses(x, 1, 29, IllegalArgumentException.class);
            Check.programRefuses(x, 14, 1, IllegalArgumentException.class);
        });
    }

    private static void runOfAnotherLength() {
        changesNothing("a run of another length", busy(), busy(), x -> {
            for (int n : new int[] {0, -1, 61, Integer.MIN_VALUE, Integer.MAX_VALUE}) {
                Check.due("run of " + n, x.run(n, 700, -700, 255), ChamberPacer.NONE);
            }
        });
    }

    /** A refused frame ends; so its twin gets a frame there, too, one that only asks. */
    private static void framesThatAreRefused() {
        int[][] restOfFrameAndAnswer = {{0, 20, Check.sum(1, 9, 0, 20) ^ 1, -2}, {1, 245, Check.sum(1, 9, 1, 245), -3},
            {0, 0, Check.sum(1, 9, 0, 0), -3}};
        for (int[] row : restOfFrameAndAnswer) {
            changesNothing("a frame that answers " + row[3], busy(), withFrameOver(busy()),
                x -> Check.due("the frame", Check.bytes(x, row[0], row[1], row[2]), row[3]));
        }
        changesNothing("a frame that answers -4", exhausted(), withFrameOver(exhausted()),
            x -> Check.due("the frame", Check.bytes(x, 0, 20, Check.sum(1, 9, 0, 20)), -4));
    }

    private static ChamberPacer withFrameOver(ChamberPacer x) {
        Check.bytes(x, 0, 0, Check.sum(1, 9, 0, 0));
        Check.due("asks", Check.frame(x, 2, 0, 0), 7);
        return x;
    }

    private static void numbersThatStandForNothing() {
        changesNothing("other numbers", busy(), busy(), x -> {
            for (int number : EXTREMES) {
                Check.due("parameter", x.parameter(number), ChamberPacer.NONE);
                Check.due("waiting", x.waiting(number), ChamberPacer.NONE);
                Check.due("since", x.since(number), ChamberPacer.NONE);
                Check.due("value", x.value(number), ChamberPacer.NONE);
                Check.due("marker of k", x.marker(number, 0), ChamberPacer.NONE);
                Check.due("marker's which", x.marker(0, number), ChamberPacer.NONE);
                Check.due("histogram", x.histogram(number), ChamberPacer.NONE);
            }
        });
    }
}
