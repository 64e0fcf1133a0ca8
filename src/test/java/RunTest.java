/** Promise 3: a run is n ticks, and answers its paces. */
public final class RunTest {
    public static void main(String[] args) {
        countsPacesOfBothChambers();
        sensesDoNotCount();
        refusesOtherLengths();
        isTheSameAsItsTicks();
        Check.end();
    }

    private static void countsPacesOfBothChambers() {
        ChamberPacer x = new ChamberPacer();
        Check.due("60 ticks", x.run(60, 0, 0, 0), 0);
        Check.due("to the pace of A", x.run(25, 0, 0, 0), 1);
        Check.due("to the pace of V", x.run(15, 0, 0, 0), 1);
        x.run(60, 0, 0, 0);
        Check.due("to both", x.run(40, 0, 0, 0), 2);
        Check.due("one tick", x.run(1, 0, 0, 0), 0);
        Check.due("the time", x.value(5), 201);
        ChamberPacer often = Check.settled(0, 0, 1, 30);
        Check.due("V twice in 60", often.run(60, 0, 0, 0), 2);
        ChamberPacer atOnce = Check.settled(0, 1);
        Check.quiet(atOnce, 85);
        atOnce.program(0, 2);
        Check.quiet(atOnce, 99);
        Check.due("both in one tick", atOnce.run(1, 0, 0, 0), 2);
    }

    private static void sensesDoNotCount() {
        ChamberPacer x = Check.settled(0, 3);
        Check.quiet(x, 39);
        Check.due("a run with a sense", x.run(5, 0, 50, 0), 0);
        Check.due("there was a sense", x.marker(0, 0), 1);
    }

    private static void refusesOtherLengths() {
        ChamberPacer x = Check.settled();
        for (int n : new int[] {0, -1, 61, 62, 1000, Integer.MIN_VALUE, Integer.MAX_VALUE}) {
            Check.due("run of " + n, x.run(n, 500, 500, 255), ChamberPacer.NONE);
        }
        Check.due("the time is as before", x.value(5), 100);
        Check.due("the level is as before", x.value(2), 0);
        Check.quiet(x, 40);
        Check.due("nothing was sampled", x.marker(0, 1), 100);
    }

    private static void isTheSameAsItsTicks() {
        for (int n = 1; n <= 60; n++) {
            ChamberPacer whole = Check.settled(0, 7, 11, 1);
            ChamberPacer single = Check.settled(0, 7, 11, 1);
            for (int round = 1; round <= 4; round++) {
                int a = (n + round) % 3 * 30;
                int v = round % 3 * 20;
                int paces = 0;
                for (int i = 0; i < n; i++) {
                    paces += Integer.bitCount(single.tick(a, v, 60 * round) >> 2);
                }
                Check.due("paces of " + n + " ticks", whole.run(n, a, v, 60 * round), paces);
            }
            Check.same("behind runs of " + n, Check.state(whole), Check.state(single));
        }
    }
}
