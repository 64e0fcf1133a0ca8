/** An object is used for at most 512 calls: the last of them still answers as due. */
public final class LongestUseTest {
    private static final int CALLS = 512;

    public static void main(String[] args) {
        theLongestTime();
        theMostCycles();
        theMostMarkers();
        theMostFrames();
        theMostFastSenses();
        Check.end();
    }

    private static void theLongestTime() {
        ChamberPacer x = new ChamberPacer();
        for (int call = 1; call < CALLS; call++) {
            x.run(60, 0, 0, 0);
        }
        Check.due("the time", x.value(5), 60 * (CALLS - 1));
    }

    private static void theMostCycles() {
        ChamberPacer x = new ChamberPacer();
        Check.ask(x, 0, 0, 1, 30);
        int paces = 0;
        for (int call = 3; call < CALLS; call++) {
            paces += x.run(60, 0, 0, 0);
        }
        int cyclesOf30 = (60 * (CALLS - 3) - 100) / 30;
        Check.due("the cycles of 30 ticks", x.histogram(1), cyclesOf30);
        Check.due("the paces, one of A among them", paces, cyclesOf30 + 2);
    }

    private static void theMostMarkers() {
        ChamberPacer x = new ChamberPacer();
        Check.ask(x, 0, 0, 1, 30);
        for (int call = 3; call < CALLS; call++) {
            x.run(60, 0, 0, 0);
        }
        int latest = 100 + (60 * (CALLS - 3) - 100) / 30 * 30;
        Check.due("the oldest marker's time", x.marker(11, 1), latest - 11 * 30);
    }

    private static void theMostFrames() {
        ChamberPacer x = new ChamberPacer();
        for (int frames = 0; frames < CALLS / 6; frames++) {
            int value = 1 + frames;
            Check.due("frame " + frames, Check.frame(x, 1, 9, value), 0);
        }
        Check.due("the last one's value", x.waiting(9), CALLS / 6);
    }

    /** In mode 5 with A sensed every 10 ticks, all of them fast. */
    private static void theMostFastSenses() {
        ChamberPacer x = Check.settled(0, 5, 4, 10, 6, 5, 13, 60);
        int calls = 5 + 2;
        int fast = 0;
        while (calls + 3 < CALLS) {
            x.run(9, 0, 0, 0);
            fast += x.tick(50, 0, 0) & 1;
            calls += 2;
        }
        Check.due("fast senses", x.value(3), fast);
        Check.due("they are many", fast > 200, true);
        Check.due("fallback", x.fallback(), true);
    }
}
