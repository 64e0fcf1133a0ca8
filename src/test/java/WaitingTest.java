/** Promise 8: the pending values of parameters. */
public final class WaitingTest {
    public static void main(String[] args) {
        ChamberPacer x = new ChamberPacer();
        x.program(3, 20);
        Check.due("pending", x.waiting(3), 20);
        x.program(3, 15);
        Check.due("pending with the value that is in force", x.waiting(3), 15);
        x.program(0, 0);
        Check.due("pending with 0", x.waiting(0), 0);
        Check.due("another one", x.waiting(4), ChamberPacer.NONE);
        Check.quiet(x, 99);
        Check.due("before the boundary", x.waiting(3), 15);
        x.tick(0, 0, 0);
        Check.due("behind the boundary", x.waiting(3), ChamberPacer.NONE);
        Check.due("behind the boundary, of 0", x.waiting(0), ChamberPacer.NONE);
        for (int k : new int[] {-1, 14, 15, Integer.MIN_VALUE, Integer.MAX_VALUE}) {
            Check.due("waiting(" + k + ")", x.waiting(k), ChamberPacer.NONE);
        }
        Check.end();
    }
}
